noncomputable def f_L_begin (m : sM) : Option (sR Int32) :=
  s_try (f_X9_begin m) (fun r1 m2 => s_ix 0 1 fun j1 => s_md (s_uL m2 109 j1 (Int32.toInt64 r1)) fun m2 => some (.inl 0, m2)) (fun E mx => if E = "java/lang/IllegalStateException" then (some (.inl 1, mx)) else none)
set_option maxRecDepth 20000 in
set_option maxHeartbeats 4000000 in
theorem c_L_begin : s_Con s_i 0 110 yL_begin wsL_begin 18 275 2 (f_L_begin) (fun ad => [.ref (ad 0), .ref (ad 109)]) := by
  refine s_conH_of cL_begin 3 (some .int) RL [(0, 8, 11, 13)] (by decide) rfl rfl (fun _ => Nat.le_of_ble_eq_true rfl) (fun ad m res V C h => ?_)
  unfold f_L_begin at h
  have F_l13 : Cond.classLink RL 13 "java/lang/IllegalStateException" ∈ wsL_begin := by decide +kernel
  show V 2 0 [(0, .ref (ad 0)), (1, .ref (ad 109))] [] m
  refine h_aload_n C dL_begin_0 rfl 1 rfl ?_
  refine h_iconst C (v := 0) dL_begin_1 (by decide) ?_
  refine h_aload_n C dL_begin_2 rfl 0 rfl ?_
  refine h_callV C (c_X9_begin 110 (by omega)) (As := []) (nn := 0) (stk := [.ref (ad 0), .int 0, .ref (ad 109)]) (ci := 9) dL_begin_3 gL_begin_X9_begin ⟨rfl, by decide, by decide, by decide +kernel⟩ (by omega) la_0 rfl rfl rfl (by decide) rfl rfl (Nat.le_of_ble_eq_true rfl) (by decide) h (fun E mx h => ?_) (fun r1 m2 h => ?_)
  · skip
    by_cases q0 : E = "java/lang/IllegalStateException"
    · have h := s_pos q0 h
      subst q0
      refine ⟨[], ⟨0, 8, 11, 13⟩, [], rfl, (fun z hz => absurd hz List.not_mem_nil), by decide, by decide, F_l13, by decide +kernel, fun q9 => ?_⟩
      show V 0 11 [(0, .ref (ad 0)), (1, .ref (ad 109))] [.ref q9] mx
      refine h_astore_n C dL_begin_11 rfl (by decide) (show _ = [(2, .ref q9), (0, .ref (ad 0)), (1, .ref (ad 109))] from rfl) ?_
      refine h_iconst C (v := 1) dL_begin_12 (by decide) ?_
      exact h_iret C dL_begin_13 rfl h
    have h := s_neg q0 h
    cases h
  show V 0 6 [(0, .ref (ad 0)), (1, .ref (ad 109))] [.int r1, .int 0, .ref (ad 109)] m2
  refine h_i2l C dL_begin_6 ?_
  refine h_last C dL_begin_7 (by omega) la_109 h (fun j1 m2 hj1 _ h => ?_)
  refine h_goto C (tgt := 14) dL_begin_8 (by decide) ?_
  refine h_iconst C (v := 0) dL_begin_14 (by decide) ?_
  exact h_iret C dL_begin_15 rfl h
noncomputable def f_L_put (p1 : Int32) (p2 : Int32) (p3 : Int32) (m : sM) : Option (sR Int32) :=
  s_try (f_X9_put p1 p2 p3 m) (fun r1 m2 => s_jn (fun (s0_18 : Int64) => s_ix 0 1 fun j1 => s_md (s_uL m2 109 j1 s0_18) fun m2 => some (.inl 0, m2)) fun k18 => if r1 = 0 then (k18 0) else (k18 1)) (fun E mx => if E = "java/lang/IndexOutOfBoundsException" then (some (.inl 1, mx)) else if E = "java/lang/IllegalArgumentException" then (some (.inl 2, mx)) else if E = "java/lang/IllegalStateException" then (some (.inl 3, mx)) else none)
set_option maxRecDepth 20000 in
set_option maxHeartbeats 4000000 in
theorem c_L_put (p1 : Int32) (p2 : Int32) (p3 : Int32) : s_Con s_i 0 110 yL_put wsL_put 18 275 3 (f_L_put p1 p2 p3) (fun ad => [.ref (ad 0), .int p1, .int p2, .int p3, .ref (ad 109)]) := by
  refine s_conH_of cL_put 6 (some .int) RL [(0, 19, 22, 19), (0, 19, 26, 21), (0, 19, 30, 13)] (by decide) rfl rfl (fun _ => Nat.le_of_ble_eq_true rfl) (fun ad m res V C h => ?_)
  unfold f_L_put at h
  have F_l19 : Cond.classLink RL 19 "java/lang/IndexOutOfBoundsException" ∈ wsL_put := by decide +kernel
  have F_l21 : Cond.classLink RL 21 "java/lang/IllegalArgumentException" ∈ wsL_put := by decide +kernel
  have F_l13 : Cond.classLink RL 13 "java/lang/IllegalStateException" ∈ wsL_put := by decide +kernel
  show V 3 0 [(0, .ref (ad 0)), (1, .int p1), (2, .int p2), (3, .int p3), (4, .ref (ad 109))] [] m
  refine h_aload C dL_put_0 4 rfl ?_
  refine h_iconst C (v := 0) dL_put_2 (by decide) ?_
  refine h_aload_n C dL_put_3 rfl 0 rfl ?_
  refine h_iload_n C dL_put_4 rfl 1 rfl ?_
  refine h_iload_n C dL_put_5 rfl 2 rfl ?_
  refine h_iload_n C dL_put_6 rfl 3 rfl ?_
  refine h_callV C (c_X9_put 110 (by omega) p1 p2 p3) (As := [.int p1, .int p2, .int p3]) (nn := 3) (stk := [.int p3, .int p2, .int p1, .ref (ad 0), .int 0, .ref (ad 109)]) (ci := 9) dL_put_7 gL_put_X9_put ⟨rfl, by decide, by decide, by decide +kernel⟩ (by omega) la_0 rfl rfl rfl (by decide) rfl rfl (Nat.le_of_ble_eq_true rfl) (by decide) h (fun E mx h => ?_) (fun r1 m2 h => ?_)
  · skip
    by_cases q0 : E = "java/lang/IndexOutOfBoundsException"
    · have h := s_pos q0 h
      subst q0
      refine ⟨[], ⟨0, 19, 22, 19⟩, [⟨0, 19, 26, 21⟩, ⟨0, 19, 30, 13⟩], rfl, (fun z hz => absurd hz List.not_mem_nil), by decide, by decide, F_l19, by decide +kernel, fun q9 => ?_⟩
      show V 0 22 [(0, .ref (ad 0)), (1, .int p1), (2, .int p2), (3, .int p3), (4, .ref (ad 109))] [.ref q9] mx
      refine h_astore C dL_put_22 (by decide) (show _ = [(5, .ref q9), (0, .ref (ad 0)), (1, .int p1), (2, .int p2), (3, .int p3), (4, .ref (ad 109))] from rfl) ?_
      refine h_iconst C (v := 1) dL_put_24 (by decide) ?_
      exact h_iret C dL_put_25 rfl h
    have h := s_neg q0 h
    by_cases q1 : E = "java/lang/IllegalArgumentException"
    · have h := s_pos q1 h
      subst q1
      refine ⟨[⟨0, 19, 22, 19⟩], ⟨0, 19, 26, 21⟩, [⟨0, 19, 30, 13⟩], rfl, List.forall_mem_cons.mpr ⟨⟨by decide, "java/lang/IndexOutOfBoundsException", F_l19, by decide +kernel, by decide⟩, fun z hz => absurd hz List.not_mem_nil⟩, by decide, by decide, F_l21, by decide +kernel, fun q9 => ?_⟩
      show V 0 26 [(0, .ref (ad 0)), (1, .int p1), (2, .int p2), (3, .int p3), (4, .ref (ad 109))] [.ref q9] mx
      refine h_astore C dL_put_26 (by decide) (show _ = [(5, .ref q9), (0, .ref (ad 0)), (1, .int p1), (2, .int p2), (3, .int p3), (4, .ref (ad 109))] from rfl) ?_
      refine h_iconst C (v := 2) dL_put_28 (by decide) ?_
      exact h_iret C dL_put_29 rfl h
    have h := s_neg q1 h
    by_cases q2 : E = "java/lang/IllegalStateException"
    · have h := s_pos q2 h
      subst q2
      refine ⟨[⟨0, 19, 22, 19⟩, ⟨0, 19, 26, 21⟩], ⟨0, 19, 30, 13⟩, [], rfl, List.forall_mem_cons.mpr ⟨⟨by decide, "java/lang/IndexOutOfBoundsException", F_l19, by decide +kernel, by decide⟩, List.forall_mem_cons.mpr ⟨⟨by decide, "java/lang/IllegalArgumentException", F_l21, by decide +kernel, by decide⟩, fun z hz => absurd hz List.not_mem_nil⟩⟩, by decide, by decide, F_l13, by decide +kernel, fun q9 => ?_⟩
      show V 0 30 [(0, .ref (ad 0)), (1, .int p1), (2, .int p2), (3, .int p3), (4, .ref (ad 109))] [.ref q9] mx
      refine h_astore C dL_put_30 (by decide) (show _ = [(5, .ref q9), (0, .ref (ad 0)), (1, .int p1), (2, .int p2), (3, .int p3), (4, .ref (ad 109))] from rfl) ?_
      refine h_iconst C (v := 3) dL_put_32 (by decide) ?_
      exact h_iret C dL_put_33 rfl h
    have h := s_neg q2 h
    cases h
  show V 0 10 [(0, .ref (ad 0)), (1, .int p1), (2, .int p2), (3, .int p3), (4, .ref (ad 109))] [.int r1, .int 0, .ref (ad 109)] m2
  refine s_join h (fun k18 => ∀ (s0_18 : Int64), k18 s0_18 = some res → V 0 18 [] [.long s0_18, .int 0, .ref (ad 109)] m2) ?_ (fun k18 hk18 h => ?_)
  · intro s0_18 h
    refine h_last C dL_put_18 (by omega) la_109 h (fun j1 m2 hj1 _ h => ?_)
    refine h_goto C (tgt := 34) dL_put_19 (by decide) ?_
    refine h_iconst C (v := 0) dL_put_34 (by decide) ?_
    exact h_iret C dL_put_35 rfl h
  refine h_if_eq C (tgt := 17) dL_put_10 (by decide) h (fun _ h => ?_) (fun _ h => ?_)
  · skip
    refine h_lconst C (v := 0) dL_put_17 (by decide) ?_
    refine h_sub C [] (show _ = [] from rfl) ?_
    exact hk18 0 h
  · skip
    refine h_lconst C (v := 1) dL_put_13 (by decide) ?_
    refine h_goto C (tgt := 18) dL_put_14 (by decide) ?_
    refine h_sub C [] (show _ = [] from rfl) ?_
    exact hk18 1 h
noncomputable def f_L_remove (p1 : Int32) (p2 : Int32) (m : sM) : Option (sR Int32) :=
  s_try (f_X9_remove p1 p2 m) (fun r1 m2 => s_ix 0 1 fun j1 => s_md (s_uL m2 109 j1 (Int32.toInt64 r1)) fun m2 => some (.inl 0, m2)) (fun E mx => if E = "java/lang/IndexOutOfBoundsException" then (some (.inl 1, mx)) else if E = "java/lang/IllegalArgumentException" then (some (.inl 2, mx)) else if E = "java/lang/IllegalStateException" then (some (.inl 3, mx)) else if E = "java/util/NoSuchElementException" then (some (.inl 4, mx)) else none)
set_option maxRecDepth 20000 in
set_option maxHeartbeats 4000000 in
theorem c_L_remove (p1 : Int32) (p2 : Int32) : s_Con s_i 0 110 yL_remove wsL_remove 20 320 4 (f_L_remove p1 p2) (fun ad => [.ref (ad 0), .int p1, .int p2, .ref (ad 109)]) := by
  refine s_conH_of cL_remove 5 (some .int) RL [(0, 10, 13, 19), (0, 10, 17, 21), (0, 10, 21, 13), (0, 10, 25, 27)] (by decide) rfl rfl (fun _ => Nat.le_of_ble_eq_true rfl) (fun ad m res V C h => ?_)
  unfold f_L_remove at h
  have F_l19 : Cond.classLink RL 19 "java/lang/IndexOutOfBoundsException" ∈ wsL_remove := by decide +kernel
  have F_l21 : Cond.classLink RL 21 "java/lang/IllegalArgumentException" ∈ wsL_remove := by decide +kernel
  have F_l13 : Cond.classLink RL 13 "java/lang/IllegalStateException" ∈ wsL_remove := by decide +kernel
  have F_l27 : Cond.classLink RL 27 "java/util/NoSuchElementException" ∈ wsL_remove := by decide +kernel
  show V 4 0 [(0, .ref (ad 0)), (1, .int p1), (2, .int p2), (3, .ref (ad 109))] [] m
  refine h_aload_n C dL_remove_0 rfl 3 rfl ?_
  refine h_iconst C (v := 0) dL_remove_1 (by decide) ?_
  refine h_aload_n C dL_remove_2 rfl 0 rfl ?_
  refine h_iload_n C dL_remove_3 rfl 1 rfl ?_
  refine h_iload_n C dL_remove_4 rfl 2 rfl ?_
  refine h_callV C (c_X9_remove 110 (by omega) p1 p2) (As := [.int p1, .int p2]) (nn := 2) (stk := [.int p2, .int p1, .ref (ad 0), .int 0, .ref (ad 109)]) (ci := 9) dL_remove_5 gL_remove_X9_remove ⟨rfl, by decide, by decide, by decide +kernel⟩ (by omega) la_0 rfl rfl rfl (by decide) rfl rfl (Nat.le_of_ble_eq_true rfl) (by decide) h (fun E mx h => ?_) (fun r1 m2 h => ?_)
  · skip
    by_cases q0 : E = "java/lang/IndexOutOfBoundsException"
    · have h := s_pos q0 h
      subst q0
      refine ⟨[], ⟨0, 10, 13, 19⟩, [⟨0, 10, 17, 21⟩, ⟨0, 10, 21, 13⟩, ⟨0, 10, 25, 27⟩], rfl, (fun z hz => absurd hz List.not_mem_nil), by decide, by decide, F_l19, by decide +kernel, fun q9 => ?_⟩
      show V 0 13 [(0, .ref (ad 0)), (1, .int p1), (2, .int p2), (3, .ref (ad 109))] [.ref q9] mx
      refine h_astore C dL_remove_13 (by decide) (show _ = [(4, .ref q9), (0, .ref (ad 0)), (1, .int p1), (2, .int p2), (3, .ref (ad 109))] from rfl) ?_
      refine h_iconst C (v := 1) dL_remove_15 (by decide) ?_
      exact h_iret C dL_remove_16 rfl h
    have h := s_neg q0 h
    by_cases q1 : E = "java/lang/IllegalArgumentException"
    · have h := s_pos q1 h
      subst q1
      refine ⟨[⟨0, 10, 13, 19⟩], ⟨0, 10, 17, 21⟩, [⟨0, 10, 21, 13⟩, ⟨0, 10, 25, 27⟩], rfl, List.forall_mem_cons.mpr ⟨⟨by decide, "java/lang/IndexOutOfBoundsException", F_l19, by decide +kernel, by decide⟩, fun z hz => absurd hz List.not_mem_nil⟩, by decide, by decide, F_l21, by decide +kernel, fun q9 => ?_⟩
      show V 0 17 [(0, .ref (ad 0)), (1, .int p1), (2, .int p2), (3, .ref (ad 109))] [.ref q9] mx
      refine h_astore C dL_remove_17 (by decide) (show _ = [(4, .ref q9), (0, .ref (ad 0)), (1, .int p1), (2, .int p2), (3, .ref (ad 109))] from rfl) ?_
      refine h_iconst C (v := 2) dL_remove_19 (by decide) ?_
      exact h_iret C dL_remove_20 rfl h
    have h := s_neg q1 h
    by_cases q2 : E = "java/lang/IllegalStateException"
    · have h := s_pos q2 h
      subst q2
      refine ⟨[⟨0, 10, 13, 19⟩, ⟨0, 10, 17, 21⟩], ⟨0, 10, 21, 13⟩, [⟨0, 10, 25, 27⟩], rfl, List.forall_mem_cons.mpr ⟨⟨by decide, "java/lang/IndexOutOfBoundsException", F_l19, by decide +kernel, by decide⟩, List.forall_mem_cons.mpr ⟨⟨by decide, "java/lang/IllegalArgumentException", F_l21, by decide +kernel, by decide⟩, fun z hz => absurd hz List.not_mem_nil⟩⟩, by decide, by decide, F_l13, by decide +kernel, fun q9 => ?_⟩
      show V 0 21 [(0, .ref (ad 0)), (1, .int p1), (2, .int p2), (3, .ref (ad 109))] [.ref q9] mx
      refine h_astore C dL_remove_21 (by decide) (show _ = [(4, .ref q9), (0, .ref (ad 0)), (1, .int p1), (2, .int p2), (3, .ref (ad 109))] from rfl) ?_
      refine h_iconst C (v := 3) dL_remove_23 (by decide) ?_
      exact h_iret C dL_remove_24 rfl h
    have h := s_neg q2 h
    by_cases q3 : E = "java/util/NoSuchElementException"
    · have h := s_pos q3 h
      subst q3
      refine ⟨[⟨0, 10, 13, 19⟩, ⟨0, 10, 17, 21⟩, ⟨0, 10, 21, 13⟩], ⟨0, 10, 25, 27⟩, [], rfl, List.forall_mem_cons.mpr ⟨⟨by decide, "java/lang/IndexOutOfBoundsException", F_l19, by decide +kernel, by decide⟩, List.forall_mem_cons.mpr ⟨⟨by decide, "java/lang/IllegalArgumentException", F_l21, by decide +kernel, by decide⟩, List.forall_mem_cons.mpr ⟨⟨by decide, "java/lang/IllegalStateException", F_l13, by decide +kernel, by decide⟩, fun z hz => absurd hz List.not_mem_nil⟩⟩⟩, by decide, by decide, F_l27, by decide +kernel, fun q9 => ?_⟩
      show V 0 25 [(0, .ref (ad 0)), (1, .int p1), (2, .int p2), (3, .ref (ad 109))] [.ref q9] mx
      refine h_astore C dL_remove_25 (by decide) (show _ = [(4, .ref q9), (0, .ref (ad 0)), (1, .int p1), (2, .int p2), (3, .ref (ad 109))] from rfl) ?_
      refine h_iconst C (v := 4) dL_remove_27 (by decide) ?_
      exact h_iret C dL_remove_28 rfl h
    have h := s_neg q3 h
    cases h
  show V 0 8 [(0, .ref (ad 0)), (1, .int p1), (2, .int p2), (3, .ref (ad 109))] [.int r1, .int 0, .ref (ad 109)] m2
  refine h_i2l C dL_remove_8 ?_
  refine h_last C dL_remove_9 (by omega) la_109 h (fun j1 m2 hj1 _ h => ?_)
  refine h_goto C (tgt := 29) dL_remove_10 (by decide) ?_
  refine h_iconst C (v := 0) dL_remove_29 (by decide) ?_
  exact h_iret C dL_remove_30 rfl h
noncomputable def f_L_get (p1 : Int32) (p2 : Int32) (m : sM) : Option (sR Int32) :=
  s_try (f_X9_get p1 p2 m) (fun r1 m2 => s_ix 0 1 fun j1 => s_md (s_uL m2 109 j1 (Int32.toInt64 r1)) fun m2 => some (.inl 0, m2)) (fun E mx => if E = "java/lang/IndexOutOfBoundsException" then (some (.inl 1, mx)) else if E = "java/lang/IllegalArgumentException" then (some (.inl 2, mx)) else if E = "java/lang/IllegalStateException" then (some (.inl 3, mx)) else if E = "java/util/NoSuchElementException" then (some (.inl 4, mx)) else none)
set_option maxRecDepth 20000 in
set_option maxHeartbeats 4000000 in
theorem c_L_get (p1 : Int32) (p2 : Int32) : s_Con s_i 0 110 yL_get wsL_get 20 320 4 (f_L_get p1 p2) (fun ad => [.ref (ad 0), .int p1, .int p2, .ref (ad 109)]) := by
  refine s_conH_of cL_get 5 (some .int) RL [(0, 10, 13, 19), (0, 10, 17, 21), (0, 10, 21, 13), (0, 10, 25, 27)] (by decide) rfl rfl (fun _ => Nat.le_of_ble_eq_true rfl) (fun ad m res V C h => ?_)
  unfold f_L_get at h
  have F_l19 : Cond.classLink RL 19 "java/lang/IndexOutOfBoundsException" ∈ wsL_get := by decide +kernel
  have F_l21 : Cond.classLink RL 21 "java/lang/IllegalArgumentException" ∈ wsL_get := by decide +kernel
  have F_l13 : Cond.classLink RL 13 "java/lang/IllegalStateException" ∈ wsL_get := by decide +kernel
  have F_l27 : Cond.classLink RL 27 "java/util/NoSuchElementException" ∈ wsL_get := by decide +kernel
  show V 4 0 [(0, .ref (ad 0)), (1, .int p1), (2, .int p2), (3, .ref (ad 109))] [] m
  refine h_aload_n C dL_get_0 rfl 3 rfl ?_
  refine h_iconst C (v := 0) dL_get_1 (by decide) ?_
  refine h_aload_n C dL_get_2 rfl 0 rfl ?_
  refine h_iload_n C dL_get_3 rfl 1 rfl ?_
  refine h_iload_n C dL_get_4 rfl 2 rfl ?_
  refine h_callV C (c_X9_get 110 (by omega) p1 p2) (As := [.int p1, .int p2]) (nn := 2) (stk := [.int p2, .int p1, .ref (ad 0), .int 0, .ref (ad 109)]) (ci := 9) dL_get_5 gL_get_X9_get ⟨rfl, by decide, by decide, by decide +kernel⟩ (by omega) la_0 rfl rfl rfl (by decide) rfl rfl (Nat.le_of_ble_eq_true rfl) (by decide) h (fun E mx h => ?_) (fun r1 m2 h => ?_)
  · skip
    by_cases q0 : E = "java/lang/IndexOutOfBoundsException"
    · have h := s_pos q0 h
      subst q0
      refine ⟨[], ⟨0, 10, 13, 19⟩, [⟨0, 10, 17, 21⟩, ⟨0, 10, 21, 13⟩, ⟨0, 10, 25, 27⟩], rfl, (fun z hz => absurd hz List.not_mem_nil), by decide, by decide, F_l19, by decide +kernel, fun q9 => ?_⟩
      show V 0 13 [(0, .ref (ad 0)), (1, .int p1), (2, .int p2), (3, .ref (ad 109))] [.ref q9] mx
      refine h_astore C dL_get_13 (by decide) (show _ = [(4, .ref q9), (0, .ref (ad 0)), (1, .int p1), (2, .int p2), (3, .ref (ad 109))] from rfl) ?_
      refine h_iconst C (v := 1) dL_get_15 (by decide) ?_
      exact h_iret C dL_get_16 rfl h
    have h := s_neg q0 h
    by_cases q1 : E = "java/lang/IllegalArgumentException"
    · have h := s_pos q1 h
      subst q1
      refine ⟨[⟨0, 10, 13, 19⟩], ⟨0, 10, 17, 21⟩, [⟨0, 10, 21, 13⟩, ⟨0, 10, 25, 27⟩], rfl, List.forall_mem_cons.mpr ⟨⟨by decide, "java/lang/IndexOutOfBoundsException", F_l19, by decide +kernel, by decide⟩, fun z hz => absurd hz List.not_mem_nil⟩, by decide, by decide, F_l21, by decide +kernel, fun q9 => ?_⟩
      show V 0 17 [(0, .ref (ad 0)), (1, .int p1), (2, .int p2), (3, .ref (ad 109))] [.ref q9] mx
      refine h_astore C dL_get_17 (by decide) (show _ = [(4, .ref q9), (0, .ref (ad 0)), (1, .int p1), (2, .int p2), (3, .ref (ad 109))] from rfl) ?_
      refine h_iconst C (v := 2) dL_get_19 (by decide) ?_
      exact h_iret C dL_get_20 rfl h
    have h := s_neg q1 h
    by_cases q2 : E = "java/lang/IllegalStateException"
    · have h := s_pos q2 h
      subst q2
      refine ⟨[⟨0, 10, 13, 19⟩, ⟨0, 10, 17, 21⟩], ⟨0, 10, 21, 13⟩, [⟨0, 10, 25, 27⟩], rfl, List.forall_mem_cons.mpr ⟨⟨by decide, "java/lang/IndexOutOfBoundsException", F_l19, by decide +kernel, by decide⟩, List.forall_mem_cons.mpr ⟨⟨by decide, "java/lang/IllegalArgumentException", F_l21, by decide +kernel, by decide⟩, fun z hz => absurd hz List.not_mem_nil⟩⟩, by decide, by decide, F_l13, by decide +kernel, fun q9 => ?_⟩
      show V 0 21 [(0, .ref (ad 0)), (1, .int p1), (2, .int p2), (3, .ref (ad 109))] [.ref q9] mx
      refine h_astore C dL_get_21 (by decide) (show _ = [(4, .ref q9), (0, .ref (ad 0)), (1, .int p1), (2, .int p2), (3, .ref (ad 109))] from rfl) ?_
      refine h_iconst C (v := 3) dL_get_23 (by decide) ?_
      exact h_iret C dL_get_24 rfl h
    have h := s_neg q2 h
    by_cases q3 : E = "java/util/NoSuchElementException"
    · have h := s_pos q3 h
      subst q3
      refine ⟨[⟨0, 10, 13, 19⟩, ⟨0, 10, 17, 21⟩, ⟨0, 10, 21, 13⟩], ⟨0, 10, 25, 27⟩, [], rfl, List.forall_mem_cons.mpr ⟨⟨by decide, "java/lang/IndexOutOfBoundsException", F_l19, by decide +kernel, by decide⟩, List.forall_mem_cons.mpr ⟨⟨by decide, "java/lang/IllegalArgumentException", F_l21, by decide +kernel, by decide⟩, List.forall_mem_cons.mpr ⟨⟨by decide, "java/lang/IllegalStateException", F_l13, by decide +kernel, by decide⟩, fun z hz => absurd hz List.not_mem_nil⟩⟩⟩, by decide, by decide, F_l27, by decide +kernel, fun q9 => ?_⟩
      show V 0 25 [(0, .ref (ad 0)), (1, .int p1), (2, .int p2), (3, .ref (ad 109))] [.ref q9] mx
      refine h_astore C dL_get_25 (by decide) (show _ = [(4, .ref q9), (0, .ref (ad 0)), (1, .int p1), (2, .int p2), (3, .ref (ad 109))] from rfl) ?_
      refine h_iconst C (v := 4) dL_get_27 (by decide) ?_
      exact h_iret C dL_get_28 rfl h
    have h := s_neg q3 h
    cases h
  show V 0 8 [(0, .ref (ad 0)), (1, .int p1), (2, .int p2), (3, .ref (ad 109))] [.int r1, .int 0, .ref (ad 109)] m2
  refine h_i2l C dL_get_8 ?_
  refine h_last C dL_get_9 (by omega) la_109 h (fun j1 m2 hj1 _ h => ?_)
  refine h_goto C (tgt := 29) dL_get_10 (by decide) ?_
  refine h_iconst C (v := 0) dL_get_29 (by decide) ?_
  exact h_iret C dL_get_30 rfl h
noncomputable def f_L_changes (p1 : Int32) (m : sM) : Option (sR Int32) :=
  s_try (f_X9_changes p1 m) (fun r1 m2 => s_ix 0 1 fun j1 => s_md (s_uL m2 109 j1 (Int32.toInt64 r1)) fun m2 => some (.inl 0, m2)) (fun E mx => if E = "java/lang/IndexOutOfBoundsException" then (some (.inl 1, mx)) else none)
set_option maxRecDepth 20000 in
set_option maxHeartbeats 4000000 in
theorem c_L_changes (p1 : Int32) : s_Con s_i 0 110 yL_changes wsL_changes 18 275 1 (f_L_changes p1) (fun ad => [.ref (ad 0), .int p1, .ref (ad 109)]) := by
  refine s_conH_of cL_changes 4 (some .int) RL [(0, 9, 12, 19)] (by decide) rfl rfl (fun _ => Nat.le_of_ble_eq_true rfl) (fun ad m res V C h => ?_)
  unfold f_L_changes at h
  have F_l19 : Cond.classLink RL 19 "java/lang/IndexOutOfBoundsException" ∈ wsL_changes := by decide +kernel
  show V 1 0 [(0, .ref (ad 0)), (1, .int p1), (2, .ref (ad 109))] [] m
  refine h_aload_n C dL_changes_0 rfl 2 rfl ?_
  refine h_iconst C (v := 0) dL_changes_1 (by decide) ?_
  refine h_aload_n C dL_changes_2 rfl 0 rfl ?_
  refine h_iload_n C dL_changes_3 rfl 1 rfl ?_
  refine h_callV C (c_X9_changes 110 (by omega) p1) (As := [.int p1]) (nn := 1) (stk := [.int p1, .ref (ad 0), .int 0, .ref (ad 109)]) (ci := 9) dL_changes_4 gL_changes_X9_changes ⟨rfl, by decide, by decide, by decide +kernel⟩ (by omega) la_0 rfl rfl rfl (by decide) rfl rfl (Nat.le_of_ble_eq_true rfl) (by decide) h (fun E mx h => ?_) (fun r1 m2 h => ?_)
  · skip
    by_cases q0 : E = "java/lang/IndexOutOfBoundsException"
    · have h := s_pos q0 h
      subst q0
      refine ⟨[], ⟨0, 9, 12, 19⟩, [], rfl, (fun z hz => absurd hz List.not_mem_nil), by decide, by decide, F_l19, by decide +kernel, fun q9 => ?_⟩
      show V 0 12 [(0, .ref (ad 0)), (1, .int p1), (2, .ref (ad 109))] [.ref q9] mx
      refine h_astore_n C dL_changes_12 rfl (by decide) (show _ = [(3, .ref q9), (0, .ref (ad 0)), (1, .int p1), (2, .ref (ad 109))] from rfl) ?_
      refine h_iconst C (v := 1) dL_changes_13 (by decide) ?_
      exact h_iret C dL_changes_14 rfl h
    have h := s_neg q0 h
    cases h
  show V 0 7 [(0, .ref (ad 0)), (1, .int p1), (2, .ref (ad 109))] [.int r1, .int 0, .ref (ad 109)] m2
  refine h_i2l C dL_changes_7 ?_
  refine h_last C dL_changes_8 (by omega) la_109 h (fun j1 m2 hj1 _ h => ?_)
  refine h_goto C (tgt := 15) dL_changes_9 (by decide) ?_
  refine h_iconst C (v := 0) dL_changes_15 (by decide) ?_
  exact h_iret C dL_changes_16 rfl h
noncomputable def f_L_slotState (p1 : Int32) (m : sM) : Option (sR Int32) :=
  s_try (f_X9_slotState p1 m) (fun r1 m2 => s_ix 0 1 fun j1 => s_md (s_uL m2 109 j1 (Int32.toInt64 r1)) fun m2 => some (.inl 0, m2)) (fun E mx => if E = "java/lang/IndexOutOfBoundsException" then (some (.inl 1, mx)) else none)
set_option maxRecDepth 20000 in
set_option maxHeartbeats 4000000 in
theorem c_L_slotState (p1 : Int32) : s_Con s_i 0 110 yL_slotState wsL_slotState 18 275 1 (f_L_slotState p1) (fun ad => [.ref (ad 0), .int p1, .ref (ad 109)]) := by
  refine s_conH_of cL_slotState 4 (some .int) RL [(0, 9, 12, 19)] (by decide) rfl rfl (fun _ => Nat.le_of_ble_eq_true rfl) (fun ad m res V C h => ?_)
  unfold f_L_slotState at h
  have F_l19 : Cond.classLink RL 19 "java/lang/IndexOutOfBoundsException" ∈ wsL_slotState := by decide +kernel
  show V 1 0 [(0, .ref (ad 0)), (1, .int p1), (2, .ref (ad 109))] [] m
  refine h_aload_n C dL_slotState_0 rfl 2 rfl ?_
  refine h_iconst C (v := 0) dL_slotState_1 (by decide) ?_
  refine h_aload_n C dL_slotState_2 rfl 0 rfl ?_
  refine h_iload_n C dL_slotState_3 rfl 1 rfl ?_
  refine h_callV C (c_X9_slotState 110 (by omega) p1) (As := [.int p1]) (nn := 1) (stk := [.int p1, .ref (ad 0), .int 0, .ref (ad 109)]) (ci := 9) dL_slotState_4 gL_slotState_X9_slotState ⟨rfl, by decide, by decide, by decide +kernel⟩ (by omega) la_0 rfl rfl rfl (by decide) rfl rfl (Nat.le_of_ble_eq_true rfl) (by decide) h (fun E mx h => ?_) (fun r1 m2 h => ?_)
  · skip
    by_cases q0 : E = "java/lang/IndexOutOfBoundsException"
    · have h := s_pos q0 h
      subst q0
      refine ⟨[], ⟨0, 9, 12, 19⟩, [], rfl, (fun z hz => absurd hz List.not_mem_nil), by decide, by decide, F_l19, by decide +kernel, fun q9 => ?_⟩
      show V 0 12 [(0, .ref (ad 0)), (1, .int p1), (2, .ref (ad 109))] [.ref q9] mx
      refine h_astore_n C dL_slotState_12 rfl (by decide) (show _ = [(3, .ref q9), (0, .ref (ad 0)), (1, .int p1), (2, .ref (ad 109))] from rfl) ?_
      refine h_iconst C (v := 1) dL_slotState_13 (by decide) ?_
      exact h_iret C dL_slotState_14 rfl h
    have h := s_neg q0 h
    cases h
  show V 0 7 [(0, .ref (ad 0)), (1, .int p1), (2, .ref (ad 109))] [.int r1, .int 0, .ref (ad 109)] m2
  refine h_i2l C dL_slotState_7 ?_
  refine h_last C dL_slotState_8 (by omega) la_109 h (fun j1 m2 hj1 _ h => ?_)
  refine h_goto C (tgt := 15) dL_slotState_9 (by decide) ?_
  refine h_iconst C (v := 0) dL_slotState_15 (by decide) ?_
  exact h_iret C dL_slotState_16 rfl h
noncomputable def f_L_mark (p1 : Int32) (m : sM) : Option (sR Int32) :=
  s_try (f_X9_mark p1 m) (fun r1 m2 => s_ix 0 1 fun j1 => s_md (s_uL m2 109 j1 (Int32.toInt64 r1)) fun m2 => some (.inl 0, m2)) (fun E mx => if E = "java/lang/IndexOutOfBoundsException" then (some (.inl 1, mx)) else if E = "java/lang/IllegalStateException" then (some (.inl 2, mx)) else none)
set_option maxRecDepth 20000 in
set_option maxHeartbeats 4000000 in
theorem c_L_mark (p1 : Int32) : s_Con s_i 0 110 yL_mark wsL_mark 18 275 3 (f_L_mark p1) (fun ad => [.ref (ad 0), .int p1, .ref (ad 109)]) := by
  refine s_conH_of cL_mark 4 (some .int) RL [(0, 9, 12, 19), (0, 9, 15, 13)] (by decide) rfl rfl (fun _ => Nat.le_of_ble_eq_true rfl) (fun ad m res V C h => ?_)
  unfold f_L_mark at h
  have F_l19 : Cond.classLink RL 19 "java/lang/IndexOutOfBoundsException" ∈ wsL_mark := by decide +kernel
  have F_l13 : Cond.classLink RL 13 "java/lang/IllegalStateException" ∈ wsL_mark := by decide +kernel
  show V 3 0 [(0, .ref (ad 0)), (1, .int p1), (2, .ref (ad 109))] [] m
  refine h_aload_n C dL_mark_0 rfl 2 rfl ?_
  refine h_iconst C (v := 0) dL_mark_1 (by decide) ?_
  refine h_aload_n C dL_mark_2 rfl 0 rfl ?_
  refine h_iload_n C dL_mark_3 rfl 1 rfl ?_
  refine h_callV C (c_X9_mark 110 (by omega) p1) (As := [.int p1]) (nn := 1) (stk := [.int p1, .ref (ad 0), .int 0, .ref (ad 109)]) (ci := 9) dL_mark_4 gL_mark_X9_mark ⟨rfl, by decide, by decide, by decide +kernel⟩ (by omega) la_0 rfl rfl rfl (by decide) rfl rfl (Nat.le_of_ble_eq_true rfl) (by decide) h (fun E mx h => ?_) (fun r1 m2 h => ?_)
  · skip
    by_cases q0 : E = "java/lang/IndexOutOfBoundsException"
    · have h := s_pos q0 h
      subst q0
      refine ⟨[], ⟨0, 9, 12, 19⟩, [⟨0, 9, 15, 13⟩], rfl, (fun z hz => absurd hz List.not_mem_nil), by decide, by decide, F_l19, by decide +kernel, fun q9 => ?_⟩
      show V 0 12 [(0, .ref (ad 0)), (1, .int p1), (2, .ref (ad 109))] [.ref q9] mx
      refine h_astore_n C dL_mark_12 rfl (by decide) (show _ = [(3, .ref q9), (0, .ref (ad 0)), (1, .int p1), (2, .ref (ad 109))] from rfl) ?_
      refine h_iconst C (v := 1) dL_mark_13 (by decide) ?_
      exact h_iret C dL_mark_14 rfl h
    have h := s_neg q0 h
    by_cases q1 : E = "java/lang/IllegalStateException"
    · have h := s_pos q1 h
      subst q1
      refine ⟨[⟨0, 9, 12, 19⟩], ⟨0, 9, 15, 13⟩, [], rfl, List.forall_mem_cons.mpr ⟨⟨by decide, "java/lang/IndexOutOfBoundsException", F_l19, by decide +kernel, by decide⟩, fun z hz => absurd hz List.not_mem_nil⟩, by decide, by decide, F_l13, by decide +kernel, fun q9 => ?_⟩
      show V 0 15 [(0, .ref (ad 0)), (1, .int p1), (2, .ref (ad 109))] [.ref q9] mx
      refine h_astore_n C dL_mark_15 rfl (by decide) (show _ = [(3, .ref q9), (0, .ref (ad 0)), (1, .int p1), (2, .ref (ad 109))] from rfl) ?_
      refine h_iconst C (v := 2) dL_mark_16 (by decide) ?_
      exact h_iret C dL_mark_17 rfl h
    have h := s_neg q1 h
    cases h
  show V 0 7 [(0, .ref (ad 0)), (1, .int p1), (2, .ref (ad 109))] [.int r1, .int 0, .ref (ad 109)] m2
  refine h_i2l C dL_mark_7 ?_
  refine h_last C dL_mark_8 (by omega) la_109 h (fun j1 m2 hj1 _ h => ?_)
  refine h_goto C (tgt := 18) dL_mark_9 (by decide) ?_
  refine h_iconst C (v := 0) dL_mark_18 (by decide) ?_
  exact h_iret C dL_mark_19 rfl h
noncomputable def f_L_goBack (p1 : Int32) (m : sM) : Option (sR Int32) :=
  s_try (f_X9_goBack p1 m) (fun r1 m2 => s_ix 0 1 fun j1 => s_md (s_uL m2 109 j1 (Int32.toInt64 r1)) fun m2 => some (.inl 0, m2)) (fun E mx => if E = "java/lang/IndexOutOfBoundsException" then (some (.inl 1, mx)) else if E = "java/lang/IllegalStateException" then (some (.inl 2, mx)) else if E = "java/util/NoSuchElementException" then (some (.inl 3, mx)) else none)
set_option maxRecDepth 20000 in
set_option maxHeartbeats 4000000 in
theorem c_L_goBack (p1 : Int32) : s_Con s_i 0 110 yL_goBack wsL_goBack 18 275 3 (f_L_goBack p1) (fun ad => [.ref (ad 0), .int p1, .ref (ad 109)]) := by
  refine s_conH_of cL_goBack 4 (some .int) RL [(0, 9, 12, 19), (0, 9, 15, 13), (0, 9, 18, 27)] (by decide) rfl rfl (fun _ => Nat.le_of_ble_eq_true rfl) (fun ad m res V C h => ?_)
  unfold f_L_goBack at h
  have F_l19 : Cond.classLink RL 19 "java/lang/IndexOutOfBoundsException" ∈ wsL_goBack := by decide +kernel
  have F_l13 : Cond.classLink RL 13 "java/lang/IllegalStateException" ∈ wsL_goBack := by decide +kernel
  have F_l27 : Cond.classLink RL 27 "java/util/NoSuchElementException" ∈ wsL_goBack := by decide +kernel
  show V 3 0 [(0, .ref (ad 0)), (1, .int p1), (2, .ref (ad 109))] [] m
  refine h_aload_n C dL_goBack_0 rfl 2 rfl ?_
  refine h_iconst C (v := 0) dL_goBack_1 (by decide) ?_
  refine h_aload_n C dL_goBack_2 rfl 0 rfl ?_
  refine h_iload_n C dL_goBack_3 rfl 1 rfl ?_
  refine h_callV C (c_X9_goBack 110 (by omega) p1) (As := [.int p1]) (nn := 1) (stk := [.int p1, .ref (ad 0), .int 0, .ref (ad 109)]) (ci := 9) dL_goBack_4 gL_goBack_X9_goBack ⟨rfl, by decide, by decide, by decide +kernel⟩ (by omega) la_0 rfl rfl rfl (by decide) rfl rfl (Nat.le_of_ble_eq_true rfl) (by decide) h (fun E mx h => ?_) (fun r1 m2 h => ?_)
  · skip
    by_cases q0 : E = "java/lang/IndexOutOfBoundsException"
    · have h := s_pos q0 h
      subst q0
      refine ⟨[], ⟨0, 9, 12, 19⟩, [⟨0, 9, 15, 13⟩, ⟨0, 9, 18, 27⟩], rfl, (fun z hz => absurd hz List.not_mem_nil), by decide, by decide, F_l19, by decide +kernel, fun q9 => ?_⟩
      show V 0 12 [(0, .ref (ad 0)), (1, .int p1), (2, .ref (ad 109))] [.ref q9] mx
      refine h_astore_n C dL_goBack_12 rfl (by decide) (show _ = [(3, .ref q9), (0, .ref (ad 0)), (1, .int p1), (2, .ref (ad 109))] from rfl) ?_
      refine h_iconst C (v := 1) dL_goBack_13 (by decide) ?_
      exact h_iret C dL_goBack_14 rfl h
    have h := s_neg q0 h
    by_cases q1 : E = "java/lang/IllegalStateException"
    · have h := s_pos q1 h
      subst q1
      refine ⟨[⟨0, 9, 12, 19⟩], ⟨0, 9, 15, 13⟩, [⟨0, 9, 18, 27⟩], rfl, List.forall_mem_cons.mpr ⟨⟨by decide, "java/lang/IndexOutOfBoundsException", F_l19, by decide +kernel, by decide⟩, fun z hz => absurd hz List.not_mem_nil⟩, by decide, by decide, F_l13, by decide +kernel, fun q9 => ?_⟩
      show V 0 15 [(0, .ref (ad 0)), (1, .int p1), (2, .ref (ad 109))] [.ref q9] mx
      refine h_astore_n C dL_goBack_15 rfl (by decide) (show _ = [(3, .ref q9), (0, .ref (ad 0)), (1, .int p1), (2, .ref (ad 109))] from rfl) ?_
      refine h_iconst C (v := 2) dL_goBack_16 (by decide) ?_
      exact h_iret C dL_goBack_17 rfl h
    have h := s_neg q1 h
    by_cases q2 : E = "java/util/NoSuchElementException"
    · have h := s_pos q2 h
      subst q2
      refine ⟨[⟨0, 9, 12, 19⟩, ⟨0, 9, 15, 13⟩], ⟨0, 9, 18, 27⟩, [], rfl, List.forall_mem_cons.mpr ⟨⟨by decide, "java/lang/IndexOutOfBoundsException", F_l19, by decide +kernel, by decide⟩, List.forall_mem_cons.mpr ⟨⟨by decide, "java/lang/IllegalStateException", F_l13, by decide +kernel, by decide⟩, fun z hz => absurd hz List.not_mem_nil⟩⟩, by decide, by decide, F_l27, by decide +kernel, fun q9 => ?_⟩
      show V 0 18 [(0, .ref (ad 0)), (1, .int p1), (2, .ref (ad 109))] [.ref q9] mx
      refine h_astore_n C dL_goBack_18 rfl (by decide) (show _ = [(3, .ref q9), (0, .ref (ad 0)), (1, .int p1), (2, .ref (ad 109))] from rfl) ?_
      refine h_iconst C (v := 3) dL_goBack_19 (by decide) ?_
      exact h_iret C dL_goBack_20 rfl h
    have h := s_neg q2 h
    cases h
  show V 0 7 [(0, .ref (ad 0)), (1, .int p1), (2, .ref (ad 109))] [.int r1, .int 0, .ref (ad 109)] m2
  refine h_i2l C dL_goBack_7 ?_
  refine h_last C dL_goBack_8 (by omega) la_109 h (fun j1 m2 hj1 _ h => ?_)
  refine h_goto C (tgt := 21) dL_goBack_9 (by decide) ?_
  refine h_iconst C (v := 0) dL_goBack_21 (by decide) ?_
  exact h_iret C dL_goBack_22 rfl h
noncomputable def f_L_ready (p1 : Int32) (m : sM) : Option (sR Int32) :=
  s_try (f_X9_ready p1 m) (fun r1 m2 => s_ix 0 1 fun j1 => s_md (s_uL m2 109 j1 (Int32.toInt64 r1)) fun m2 => some (.inl 0, m2)) (fun E mx => if E = "java/lang/IndexOutOfBoundsException" then (some (.inl 1, mx)) else if E = "java/lang/IllegalStateException" then (some (.inl 2, mx)) else none)
set_option maxRecDepth 20000 in
set_option maxHeartbeats 4000000 in
theorem c_L_ready (p1 : Int32) : s_Con s_i 0 110 yL_ready wsL_ready 18 275 2 (f_L_ready p1) (fun ad => [.ref (ad 0), .int p1, .ref (ad 109)]) := by
  refine s_conH_of cL_ready 4 (some .int) RL [(0, 9, 12, 19), (0, 9, 15, 13)] (by decide) rfl rfl (fun _ => Nat.le_of_ble_eq_true rfl) (fun ad m res V C h => ?_)
  unfold f_L_ready at h
  have F_l19 : Cond.classLink RL 19 "java/lang/IndexOutOfBoundsException" ∈ wsL_ready := by decide +kernel
  have F_l13 : Cond.classLink RL 13 "java/lang/IllegalStateException" ∈ wsL_ready := by decide +kernel
  show V 2 0 [(0, .ref (ad 0)), (1, .int p1), (2, .ref (ad 109))] [] m
  refine h_aload_n C dL_ready_0 rfl 2 rfl ?_
  refine h_iconst C (v := 0) dL_ready_1 (by decide) ?_
  refine h_aload_n C dL_ready_2 rfl 0 rfl ?_
  refine h_iload_n C dL_ready_3 rfl 1 rfl ?_
  refine h_callV C (c_X9_ready 110 (by omega) p1) (As := [.int p1]) (nn := 1) (stk := [.int p1, .ref (ad 0), .int 0, .ref (ad 109)]) (ci := 9) dL_ready_4 gL_ready_X9_ready ⟨rfl, by decide, by decide, by decide +kernel⟩ (by omega) la_0 rfl rfl rfl (by decide) rfl rfl (Nat.le_of_ble_eq_true rfl) (by decide) h (fun E mx h => ?_) (fun r1 m2 h => ?_)
  · skip
    by_cases q0 : E = "java/lang/IndexOutOfBoundsException"
    · have h := s_pos q0 h
      subst q0
      refine ⟨[], ⟨0, 9, 12, 19⟩, [⟨0, 9, 15, 13⟩], rfl, (fun z hz => absurd hz List.not_mem_nil), by decide, by decide, F_l19, by decide +kernel, fun q9 => ?_⟩
      show V 0 12 [(0, .ref (ad 0)), (1, .int p1), (2, .ref (ad 109))] [.ref q9] mx
      refine h_astore_n C dL_ready_12 rfl (by decide) (show _ = [(3, .ref q9), (0, .ref (ad 0)), (1, .int p1), (2, .ref (ad 109))] from rfl) ?_
      refine h_iconst C (v := 1) dL_ready_13 (by decide) ?_
      exact h_iret C dL_ready_14 rfl h
    have h := s_neg q0 h
    by_cases q1 : E = "java/lang/IllegalStateException"
    · have h := s_pos q1 h
      subst q1
      refine ⟨[⟨0, 9, 12, 19⟩], ⟨0, 9, 15, 13⟩, [], rfl, List.forall_mem_cons.mpr ⟨⟨by decide, "java/lang/IndexOutOfBoundsException", F_l19, by decide +kernel, by decide⟩, fun z hz => absurd hz List.not_mem_nil⟩, by decide, by decide, F_l13, by decide +kernel, fun q9 => ?_⟩
      show V 0 15 [(0, .ref (ad 0)), (1, .int p1), (2, .ref (ad 109))] [.ref q9] mx
      refine h_astore_n C dL_ready_15 rfl (by decide) (show _ = [(3, .ref q9), (0, .ref (ad 0)), (1, .int p1), (2, .ref (ad 109))] from rfl) ?_
      refine h_iconst C (v := 2) dL_ready_16 (by decide) ?_
      exact h_iret C dL_ready_17 rfl h
    have h := s_neg q1 h
    cases h
  show V 0 7 [(0, .ref (ad 0)), (1, .int p1), (2, .ref (ad 109))] [.int r1, .int 0, .ref (ad 109)] m2
  refine h_i2l C dL_ready_7 ?_
  refine h_last C dL_ready_8 (by omega) la_109 h (fun j1 m2 hj1 _ h => ?_)
  refine h_goto C (tgt := 18) dL_ready_9 (by decide) ?_
  refine h_iconst C (v := 0) dL_ready_18 (by decide) ?_
  exact h_iret C dL_ready_19 rfl h
noncomputable def f_L_abandon (p1 : Int32) (m : sM) : Option (sR Int32) :=
  s_try (f_X9_abandon p1 m) (fun r1 m2 => s_ix 0 1 fun j1 => s_md (s_uL m2 109 j1 (Int32.toInt64 r1)) fun m2 => some (.inl 0, m2)) (fun E mx => if E = "java/lang/IndexOutOfBoundsException" then (some (.inl 1, mx)) else if E = "java/lang/IllegalStateException" then (some (.inl 2, mx)) else none)
set_option maxRecDepth 20000 in
set_option maxHeartbeats 4000000 in
theorem c_L_abandon (p1 : Int32) : s_Con s_i 0 110 yL_abandon wsL_abandon 18 275 2 (f_L_abandon p1) (fun ad => [.ref (ad 0), .int p1, .ref (ad 109)]) := by
  refine s_conH_of cL_abandon 4 (some .int) RL [(0, 9, 12, 19), (0, 9, 15, 13)] (by decide) rfl rfl (fun _ => Nat.le_of_ble_eq_true rfl) (fun ad m res V C h => ?_)
  unfold f_L_abandon at h
  have F_l19 : Cond.classLink RL 19 "java/lang/IndexOutOfBoundsException" ∈ wsL_abandon := by decide +kernel
  have F_l13 : Cond.classLink RL 13 "java/lang/IllegalStateException" ∈ wsL_abandon := by decide +kernel
  show V 2 0 [(0, .ref (ad 0)), (1, .int p1), (2, .ref (ad 109))] [] m
  refine h_aload_n C dL_abandon_0 rfl 2 rfl ?_
  refine h_iconst C (v := 0) dL_abandon_1 (by decide) ?_
  refine h_aload_n C dL_abandon_2 rfl 0 rfl ?_
  refine h_iload_n C dL_abandon_3 rfl 1 rfl ?_
  refine h_callV C (c_X9_abandon 110 (by omega) p1) (As := [.int p1]) (nn := 1) (stk := [.int p1, .ref (ad 0), .int 0, .ref (ad 109)]) (ci := 9) dL_abandon_4 gL_abandon_X9_abandon ⟨rfl, by decide, by decide, by decide +kernel⟩ (by omega) la_0 rfl rfl rfl (by decide) rfl rfl (Nat.le_of_ble_eq_true rfl) (by decide) h (fun E mx h => ?_) (fun r1 m2 h => ?_)
  · skip
    by_cases q0 : E = "java/lang/IndexOutOfBoundsException"
    · have h := s_pos q0 h
      subst q0
      refine ⟨[], ⟨0, 9, 12, 19⟩, [⟨0, 9, 15, 13⟩], rfl, (fun z hz => absurd hz List.not_mem_nil), by decide, by decide, F_l19, by decide +kernel, fun q9 => ?_⟩
      show V 0 12 [(0, .ref (ad 0)), (1, .int p1), (2, .ref (ad 109))] [.ref q9] mx
      refine h_astore_n C dL_abandon_12 rfl (by decide) (show _ = [(3, .ref q9), (0, .ref (ad 0)), (1, .int p1), (2, .ref (ad 109))] from rfl) ?_
      refine h_iconst C (v := 1) dL_abandon_13 (by decide) ?_
      exact h_iret C dL_abandon_14 rfl h
    have h := s_neg q0 h
    by_cases q1 : E = "java/lang/IllegalStateException"
    · have h := s_pos q1 h
      subst q1
      refine ⟨[⟨0, 9, 12, 19⟩], ⟨0, 9, 15, 13⟩, [], rfl, List.forall_mem_cons.mpr ⟨⟨by decide, "java/lang/IndexOutOfBoundsException", F_l19, by decide +kernel, by decide⟩, fun z hz => absurd hz List.not_mem_nil⟩, by decide, by decide, F_l13, by decide +kernel, fun q9 => ?_⟩
      show V 0 15 [(0, .ref (ad 0)), (1, .int p1), (2, .ref (ad 109))] [.ref q9] mx
      refine h_astore_n C dL_abandon_15 rfl (by decide) (show _ = [(3, .ref q9), (0, .ref (ad 0)), (1, .int p1), (2, .ref (ad 109))] from rfl) ?_
      refine h_iconst C (v := 2) dL_abandon_16 (by decide) ?_
      exact h_iret C dL_abandon_17 rfl h
    have h := s_neg q1 h
    cases h
  show V 0 7 [(0, .ref (ad 0)), (1, .int p1), (2, .ref (ad 109))] [.int r1, .int 0, .ref (ad 109)] m2
  refine h_i2l C dL_abandon_7 ?_
  refine h_last C dL_abandon_8 (by omega) la_109 h (fun j1 m2 hj1 _ h => ?_)
  refine h_goto C (tgt := 18) dL_abandon_9 (by decide) ?_
  refine h_iconst C (v := 0) dL_abandon_18 (by decide) ?_
  exact h_iret C dL_abandon_19 rfl h
noncomputable def f_L_feed (p1 : Int32) (m : sM) : Option (sR Int32) :=
  s_try (f_X9_feed p1 m) (fun r1 m2 => s_ix 0 1 fun j1 => s_md (s_uL m2 109 j1 (Int32.toInt64 r1)) fun m2 => some (.inl 0, m2)) (fun E mx => if E = "java/lang/IllegalStateException" then (some (.inl 1, mx)) else none)
set_option maxRecDepth 20000 in
set_option maxHeartbeats 4000000 in
theorem c_L_feed (p1 : Int32) : s_Con s_i 0 110 yL_feed wsL_feed 16 230 1 (f_L_feed p1) (fun ad => [.ref (ad 0), .int p1, .ref (ad 109)]) := by
  refine s_conH_of cL_feed 4 (some .int) RL [(0, 9, 12, 13)] (by decide) rfl rfl (fun _ => Nat.le_of_ble_eq_true rfl) (fun ad m res V C h => ?_)
  unfold f_L_feed at h
  have F_l13 : Cond.classLink RL 13 "java/lang/IllegalStateException" ∈ wsL_feed := by decide +kernel
  show V 1 0 [(0, .ref (ad 0)), (1, .int p1), (2, .ref (ad 109))] [] m
  refine h_aload_n C dL_feed_0 rfl 2 rfl ?_
  refine h_iconst C (v := 0) dL_feed_1 (by decide) ?_
  refine h_aload_n C dL_feed_2 rfl 0 rfl ?_
  refine h_iload_n C dL_feed_3 rfl 1 rfl ?_
  refine h_callV C (c_X9_feed 110 (by omega) p1) (As := [.int p1]) (nn := 1) (stk := [.int p1, .ref (ad 0), .int 0, .ref (ad 109)]) (ci := 9) dL_feed_4 gL_feed_X9_feed ⟨rfl, by decide, by decide, by decide +kernel⟩ (by omega) la_0 rfl rfl rfl (by decide) rfl rfl (Nat.le_of_ble_eq_true rfl) (by decide) h (fun E mx h => ?_) (fun r1 m2 h => ?_)
  · skip
    by_cases q0 : E = "java/lang/IllegalStateException"
    · have h := s_pos q0 h
      subst q0
      refine ⟨[], ⟨0, 9, 12, 13⟩, [], rfl, (fun z hz => absurd hz List.not_mem_nil), by decide, by decide, F_l13, by decide +kernel, fun q9 => ?_⟩
      show V 0 12 [(0, .ref (ad 0)), (1, .int p1), (2, .ref (ad 109))] [.ref q9] mx
      refine h_astore_n C dL_feed_12 rfl (by decide) (show _ = [(3, .ref q9), (0, .ref (ad 0)), (1, .int p1), (2, .ref (ad 109))] from rfl) ?_
      refine h_iconst C (v := 1) dL_feed_13 (by decide) ?_
      exact h_iret C dL_feed_14 rfl h
    have h := s_neg q0 h
    cases h
  show V 0 7 [(0, .ref (ad 0)), (1, .int p1), (2, .ref (ad 109))] [.int r1, .int 0, .ref (ad 109)] m2
  refine h_i2l C dL_feed_7 ?_
  refine h_last C dL_feed_8 (by omega) la_109 h (fun j1 m2 hj1 _ h => ?_)
  refine h_goto C (tgt := 15) dL_feed_9 (by decide) ?_
  refine h_iconst C (v := 0) dL_feed_15 (by decide) ?_
  exact h_iret C dL_feed_16 rfl h
noncomputable def f_L_readChanges (p1 : Int32) (m : sM) : Option (sR Int32) :=
  s_try (f_X9_readChanges p1 m) (fun r1 m2 => s_ix 0 1 fun j1 => s_md (s_uL m2 109 j1 (Int32.toInt64 r1)) fun m2 => some (.inl 0, m2)) (fun E mx => if E = "java/lang/IndexOutOfBoundsException" then (some (.inl 1, mx)) else if E = "java/lang/IllegalStateException" then (some (.inl 2, mx)) else none)
set_option maxRecDepth 20000 in
set_option maxHeartbeats 4000000 in
theorem c_L_readChanges (p1 : Int32) : s_Con s_i 0 110 yL_readChanges wsL_readChanges 20 320 2 (f_L_readChanges p1) (fun ad => [.ref (ad 0), .int p1, .ref (ad 109)]) := by
  refine s_conH_of cL_readChanges 4 (some .int) RL [(0, 9, 12, 19), (0, 9, 15, 13)] (by decide) rfl rfl (fun _ => Nat.le_of_ble_eq_true rfl) (fun ad m res V C h => ?_)
  unfold f_L_readChanges at h
  have F_l19 : Cond.classLink RL 19 "java/lang/IndexOutOfBoundsException" ∈ wsL_readChanges := by decide +kernel
  have F_l13 : Cond.classLink RL 13 "java/lang/IllegalStateException" ∈ wsL_readChanges := by decide +kernel
  show V 2 0 [(0, .ref (ad 0)), (1, .int p1), (2, .ref (ad 109))] [] m
  refine h_aload_n C dL_readChanges_0 rfl 2 rfl ?_
  refine h_iconst C (v := 0) dL_readChanges_1 (by decide) ?_
  refine h_aload_n C dL_readChanges_2 rfl 0 rfl ?_
  refine h_iload_n C dL_readChanges_3 rfl 1 rfl ?_
  refine h_callV C (c_X9_readChanges 110 (by omega) p1) (As := [.int p1]) (nn := 1) (stk := [.int p1, .ref (ad 0), .int 0, .ref (ad 109)]) (ci := 9) dL_readChanges_4 gL_readChanges_X9_readChanges ⟨rfl, by decide, by decide, by decide +kernel⟩ (by omega) la_0 rfl rfl rfl (by decide) rfl rfl (Nat.le_of_ble_eq_true rfl) (by decide) h (fun E mx h => ?_) (fun r1 m2 h => ?_)
  · skip
    by_cases q0 : E = "java/lang/IndexOutOfBoundsException"
    · have h := s_pos q0 h
      subst q0
      refine ⟨[], ⟨0, 9, 12, 19⟩, [⟨0, 9, 15, 13⟩], rfl, (fun z hz => absurd hz List.not_mem_nil), by decide, by decide, F_l19, by decide +kernel, fun q9 => ?_⟩
      show V 0 12 [(0, .ref (ad 0)), (1, .int p1), (2, .ref (ad 109))] [.ref q9] mx
      refine h_astore_n C dL_readChanges_12 rfl (by decide) (show _ = [(3, .ref q9), (0, .ref (ad 0)), (1, .int p1), (2, .ref (ad 109))] from rfl) ?_
      refine h_iconst C (v := 1) dL_readChanges_13 (by decide) ?_
      exact h_iret C dL_readChanges_14 rfl h
    have h := s_neg q0 h
    by_cases q1 : E = "java/lang/IllegalStateException"
    · have h := s_pos q1 h
      subst q1
      refine ⟨[⟨0, 9, 12, 19⟩], ⟨0, 9, 15, 13⟩, [], rfl, List.forall_mem_cons.mpr ⟨⟨by decide, "java/lang/IndexOutOfBoundsException", F_l19, by decide +kernel, by decide⟩, fun z hz => absurd hz List.not_mem_nil⟩, by decide, by decide, F_l13, by decide +kernel, fun q9 => ?_⟩
      show V 0 15 [(0, .ref (ad 0)), (1, .int p1), (2, .ref (ad 109))] [.ref q9] mx
      refine h_astore_n C dL_readChanges_15 rfl (by decide) (show _ = [(3, .ref q9), (0, .ref (ad 0)), (1, .int p1), (2, .ref (ad 109))] from rfl) ?_
      refine h_iconst C (v := 2) dL_readChanges_16 (by decide) ?_
      exact h_iret C dL_readChanges_17 rfl h
    have h := s_neg q1 h
    cases h
  show V 0 7 [(0, .ref (ad 0)), (1, .int p1), (2, .ref (ad 109))] [.int r1, .int 0, .ref (ad 109)] m2
  refine h_i2l C dL_readChanges_7 ?_
  refine h_last C dL_readChanges_8 (by omega) la_109 h (fun j1 m2 hj1 _ h => ?_)
  refine h_goto C (tgt := 18) dL_readChanges_9 (by decide) ?_
  refine h_iconst C (v := 0) dL_readChanges_18 (by decide) ?_
  exact h_iret C dL_readChanges_19 rfl h
noncomputable def f_L_writeChanges (p1 : Int32) (m : sM) : Option (sR Int32) :=
  s_try (f_X9_writeChanges p1 m) (fun r1 m2 => s_ix 0 1 fun j1 => s_md (s_uL m2 109 j1 (Int32.toInt64 r1)) fun m2 => some (.inl 0, m2)) (fun E mx => if E = "java/lang/IndexOutOfBoundsException" then (some (.inl 1, mx)) else if E = "java/lang/IllegalStateException" then (some (.inl 2, mx)) else none)
set_option maxRecDepth 20000 in
set_option maxHeartbeats 4000000 in
theorem c_L_writeChanges (p1 : Int32) : s_Con s_i 0 110 yL_writeChanges wsL_writeChanges 20 320 2 (f_L_writeChanges p1) (fun ad => [.ref (ad 0), .int p1, .ref (ad 109)]) := by
  refine s_conH_of cL_writeChanges 4 (some .int) RL [(0, 9, 12, 19), (0, 9, 15, 13)] (by decide) rfl rfl (fun _ => Nat.le_of_ble_eq_true rfl) (fun ad m res V C h => ?_)
  unfold f_L_writeChanges at h
  have F_l19 : Cond.classLink RL 19 "java/lang/IndexOutOfBoundsException" ∈ wsL_writeChanges := by decide +kernel
  have F_l13 : Cond.classLink RL 13 "java/lang/IllegalStateException" ∈ wsL_writeChanges := by decide +kernel
  show V 2 0 [(0, .ref (ad 0)), (1, .int p1), (2, .ref (ad 109))] [] m
  refine h_aload_n C dL_writeChanges_0 rfl 2 rfl ?_
  refine h_iconst C (v := 0) dL_writeChanges_1 (by decide) ?_
  refine h_aload_n C dL_writeChanges_2 rfl 0 rfl ?_
  refine h_iload_n C dL_writeChanges_3 rfl 1 rfl ?_
  refine h_callV C (c_X9_writeChanges 110 (by omega) p1) (As := [.int p1]) (nn := 1) (stk := [.int p1, .ref (ad 0), .int 0, .ref (ad 109)]) (ci := 9) dL_writeChanges_4 gL_writeChanges_X9_writeChanges ⟨rfl, by decide, by decide, by decide +kernel⟩ (by omega) la_0 rfl rfl rfl (by decide) rfl rfl (Nat.le_of_ble_eq_true rfl) (by decide) h (fun E mx h => ?_) (fun r1 m2 h => ?_)
  · skip
    by_cases q0 : E = "java/lang/IndexOutOfBoundsException"
    · have h := s_pos q0 h
      subst q0
      refine ⟨[], ⟨0, 9, 12, 19⟩, [⟨0, 9, 15, 13⟩], rfl, (fun z hz => absurd hz List.not_mem_nil), by decide, by decide, F_l19, by decide +kernel, fun q9 => ?_⟩
      show V 0 12 [(0, .ref (ad 0)), (1, .int p1), (2, .ref (ad 109))] [.ref q9] mx
      refine h_astore_n C dL_writeChanges_12 rfl (by decide) (show _ = [(3, .ref q9), (0, .ref (ad 0)), (1, .int p1), (2, .ref (ad 109))] from rfl) ?_
      refine h_iconst C (v := 1) dL_writeChanges_13 (by decide) ?_
      exact h_iret C dL_writeChanges_14 rfl h
    have h := s_neg q0 h
    by_cases q1 : E = "java/lang/IllegalStateException"
    · have h := s_pos q1 h
      subst q1
      refine ⟨[⟨0, 9, 12, 19⟩], ⟨0, 9, 15, 13⟩, [], rfl, List.forall_mem_cons.mpr ⟨⟨by decide, "java/lang/IndexOutOfBoundsException", F_l19, by decide +kernel, by decide⟩, fun z hz => absurd hz List.not_mem_nil⟩, by decide, by decide, F_l13, by decide +kernel, fun q9 => ?_⟩
      show V 0 15 [(0, .ref (ad 0)), (1, .int p1), (2, .ref (ad 109))] [.ref q9] mx
      refine h_astore_n C dL_writeChanges_15 rfl (by decide) (show _ = [(3, .ref q9), (0, .ref (ad 0)), (1, .int p1), (2, .ref (ad 109))] from rfl) ?_
      refine h_iconst C (v := 2) dL_writeChanges_16 (by decide) ?_
      exact h_iret C dL_writeChanges_17 rfl h
    have h := s_neg q1 h
    cases h
  show V 0 7 [(0, .ref (ad 0)), (1, .int p1), (2, .ref (ad 109))] [.int r1, .int 0, .ref (ad 109)] m2
  refine h_i2l C dL_writeChanges_7 ?_
  refine h_last C dL_writeChanges_8 (by omega) la_109 h (fun j1 m2 hj1 _ h => ?_)
  refine h_goto C (tgt := 18) dL_writeChanges_9 (by decide) ?_
  refine h_iconst C (v := 0) dL_writeChanges_18 (by decide) ?_
  exact h_iret C dL_writeChanges_19 rfl h
noncomputable def f_L_writeRecords (m : sM) : Option (sR Int32) :=
  s_try (f_X9_writeRecords m) (fun r1 m2 => s_ix 0 1 fun j1 => s_md (s_uL m2 109 j1 (Int32.toInt64 r1)) fun m2 => some (.inl 0, m2)) (fun E mx => if E = "java/lang/IllegalStateException" then (some (.inl 1, mx)) else none)
set_option maxRecDepth 20000 in
set_option maxHeartbeats 4000000 in
theorem c_L_writeRecords : s_Con s_i 0 110 yL_writeRecords wsL_writeRecords 20 320 1 (f_L_writeRecords) (fun ad => [.ref (ad 0), .ref (ad 109)]) := by
  refine s_conH_of cL_writeRecords 3 (some .int) RL [(0, 8, 11, 13)] (by decide) rfl rfl (fun _ => Nat.le_of_ble_eq_true rfl) (fun ad m res V C h => ?_)
  unfold f_L_writeRecords at h
  have F_l13 : Cond.classLink RL 13 "java/lang/IllegalStateException" ∈ wsL_writeRecords := by decide +kernel
  show V 1 0 [(0, .ref (ad 0)), (1, .ref (ad 109))] [] m
  refine h_aload_n C dL_writeRecords_0 rfl 1 rfl ?_
  refine h_iconst C (v := 0) dL_writeRecords_1 (by decide) ?_
  refine h_aload_n C dL_writeRecords_2 rfl 0 rfl ?_
  refine h_callV C (c_X9_writeRecords 110 (by omega)) (As := []) (nn := 0) (stk := [.ref (ad 0), .int 0, .ref (ad 109)]) (ci := 9) dL_writeRecords_3 gL_writeRecords_X9_writeRecords ⟨rfl, by decide, by decide, by decide +kernel⟩ (by omega) la_0 rfl rfl rfl (by decide) rfl rfl (Nat.le_of_ble_eq_true rfl) (by decide) h (fun E mx h => ?_) (fun r1 m2 h => ?_)
  · skip
    by_cases q0 : E = "java/lang/IllegalStateException"
    · have h := s_pos q0 h
      subst q0
      refine ⟨[], ⟨0, 8, 11, 13⟩, [], rfl, (fun z hz => absurd hz List.not_mem_nil), by decide, by decide, F_l13, by decide +kernel, fun q9 => ?_⟩
      show V 0 11 [(0, .ref (ad 0)), (1, .ref (ad 109))] [.ref q9] mx
      refine h_astore_n C dL_writeRecords_11 rfl (by decide) (show _ = [(2, .ref q9), (0, .ref (ad 0)), (1, .ref (ad 109))] from rfl) ?_
      refine h_iconst C (v := 1) dL_writeRecords_12 (by decide) ?_
      exact h_iret C dL_writeRecords_13 rfl h
    have h := s_neg q0 h
    cases h
  show V 0 6 [(0, .ref (ad 0)), (1, .ref (ad 109))] [.int r1, .int 0, .ref (ad 109)] m2
  refine h_i2l C dL_writeRecords_6 ?_
  refine h_last C dL_writeRecords_7 (by omega) la_109 h (fun j1 m2 hj1 _ h => ?_)
  refine h_goto C (tgt := 14) dL_writeRecords_8 (by decide) ?_
  refine h_iconst C (v := 0) dL_writeRecords_14 (by decide) ?_
  exact h_iret C dL_writeRecords_15 rfl h
noncomputable def f_L_outputAt (p1 : Int32) (m : sM) : Option (sR Int32) :=
  s_try (f_X9_outputAt p1 m) (fun r1 m2 => s_ix 0 1 fun j1 => s_md (s_uL m2 109 j1 (Int32.toInt64 r1)) fun m2 => some (.inl 0, m2)) (fun E mx => if E = "java/lang/IndexOutOfBoundsException" then (some (.inl 1, mx)) else none)
set_option maxRecDepth 20000 in
set_option maxHeartbeats 4000000 in
theorem c_L_outputAt (p1 : Int32) : s_Con s_i 0 110 yL_outputAt wsL_outputAt 14 185 1 (f_L_outputAt p1) (fun ad => [.ref (ad 0), .int p1, .ref (ad 109)]) := by
  refine s_conH_of cL_outputAt 4 (some .int) RL [(0, 9, 12, 19)] (by decide) rfl rfl (fun _ => Nat.le_of_ble_eq_true rfl) (fun ad m res V C h => ?_)
  unfold f_L_outputAt at h
  have F_l19 : Cond.classLink RL 19 "java/lang/IndexOutOfBoundsException" ∈ wsL_outputAt := by decide +kernel
  show V 1 0 [(0, .ref (ad 0)), (1, .int p1), (2, .ref (ad 109))] [] m
  refine h_aload_n C dL_outputAt_0 rfl 2 rfl ?_
  refine h_iconst C (v := 0) dL_outputAt_1 (by decide) ?_
  refine h_aload_n C dL_outputAt_2 rfl 0 rfl ?_
  refine h_iload_n C dL_outputAt_3 rfl 1 rfl ?_
  refine h_callV C (c_X9_outputAt 110 (by omega) p1) (As := [.int p1]) (nn := 1) (stk := [.int p1, .ref (ad 0), .int 0, .ref (ad 109)]) (ci := 9) dL_outputAt_4 gL_outputAt_X9_outputAt ⟨rfl, by decide, by decide, by decide +kernel⟩ (by omega) la_0 rfl rfl rfl (by decide) rfl rfl (Nat.le_of_ble_eq_true rfl) (by decide) h (fun E mx h => ?_) (fun r1 m2 h => ?_)
  · skip
    by_cases q0 : E = "java/lang/IndexOutOfBoundsException"
    · have h := s_pos q0 h
      subst q0
      refine ⟨[], ⟨0, 9, 12, 19⟩, [], rfl, (fun z hz => absurd hz List.not_mem_nil), by decide, by decide, F_l19, by decide +kernel, fun q9 => ?_⟩
      show V 0 12 [(0, .ref (ad 0)), (1, .int p1), (2, .ref (ad 109))] [.ref q9] mx
      refine h_astore_n C dL_outputAt_12 rfl (by decide) (show _ = [(3, .ref q9), (0, .ref (ad 0)), (1, .int p1), (2, .ref (ad 109))] from rfl) ?_
      refine h_iconst C (v := 1) dL_outputAt_13 (by decide) ?_
      exact h_iret C dL_outputAt_14 rfl h
    have h := s_neg q0 h
    cases h
  show V 0 7 [(0, .ref (ad 0)), (1, .int p1), (2, .ref (ad 109))] [.int r1, .int 0, .ref (ad 109)] m2
  refine h_i2l C dL_outputAt_7 ?_
  refine h_last C dL_outputAt_8 (by omega) la_109 h (fun j1 m2 hj1 _ h => ?_)
  refine h_goto C (tgt := 15) dL_outputAt_9 (by decide) ?_
  refine h_iconst C (v := 0) dL_outputAt_15 (by decide) ?_
  exact h_iret C dL_outputAt_16 rfl h
noncomputable def f_L_commit (p1 : Int32) (m : sM) : Option (sR Int32) :=
  s_try (f_X9_commit p1 m) (fun r1 m2 => s_ix 0 1 fun j1 => s_md (s_uL m2 109 j1 (Int32.toInt64 r1)) fun m2 => some (.inl 0, m2)) (fun E mx => if E = "java/lang/IllegalArgumentException" then (some (.inl 1, mx)) else if E = "java/lang/IllegalStateException" then (some (.inl 2, mx)) else if E = "java/lang/UnsupportedOperationException" then (some (.inl 3, mx)) else none)
set_option maxRecDepth 20000 in
set_option maxHeartbeats 4000000 in
theorem c_L_commit (p1 : Int32) : s_Con s_i 0 110 yL_commit wsL_commit 22 365 2 (f_L_commit p1) (fun ad => [.ref (ad 0), .int p1, .ref (ad 109)]) := by
  refine s_conH_of cL_commit 4 (some .int) RL [(0, 9, 12, 21), (0, 9, 15, 13), (0, 9, 18, 71)] (by decide) rfl rfl (fun _ => Nat.le_of_ble_eq_true rfl) (fun ad m res V C h => ?_)
  unfold f_L_commit at h
  have F_l21 : Cond.classLink RL 21 "java/lang/IllegalArgumentException" ∈ wsL_commit := by decide +kernel
  have F_l13 : Cond.classLink RL 13 "java/lang/IllegalStateException" ∈ wsL_commit := by decide +kernel
  have F_l71 : Cond.classLink RL 71 "java/lang/UnsupportedOperationException" ∈ wsL_commit := by decide +kernel
  show V 2 0 [(0, .ref (ad 0)), (1, .int p1), (2, .ref (ad 109))] [] m
  refine h_aload_n C dL_commit_0 rfl 2 rfl ?_
  refine h_iconst C (v := 0) dL_commit_1 (by decide) ?_
  refine h_aload_n C dL_commit_2 rfl 0 rfl ?_
  refine h_iload_n C dL_commit_3 rfl 1 rfl ?_
  refine h_callV C (c_X9_commit 110 (by omega) p1) (As := [.int p1]) (nn := 1) (stk := [.int p1, .ref (ad 0), .int 0, .ref (ad 109)]) (ci := 9) dL_commit_4 gL_commit_X9_commit ⟨rfl, by decide, by decide, by decide +kernel⟩ (by omega) la_0 rfl rfl rfl (by decide) rfl rfl (Nat.le_of_ble_eq_true rfl) (by decide) h (fun E mx h => ?_) (fun r1 m2 h => ?_)
  · skip
    by_cases q0 : E = "java/lang/IllegalArgumentException"
    · have h := s_pos q0 h
      subst q0
      refine ⟨[], ⟨0, 9, 12, 21⟩, [⟨0, 9, 15, 13⟩, ⟨0, 9, 18, 71⟩], rfl, (fun z hz => absurd hz List.not_mem_nil), by decide, by decide, F_l21, by decide +kernel, fun q9 => ?_⟩
      show V 0 12 [(0, .ref (ad 0)), (1, .int p1), (2, .ref (ad 109))] [.ref q9] mx
      refine h_astore_n C dL_commit_12 rfl (by decide) (show _ = [(3, .ref q9), (0, .ref (ad 0)), (1, .int p1), (2, .ref (ad 109))] from rfl) ?_
      refine h_iconst C (v := 1) dL_commit_13 (by decide) ?_
      exact h_iret C dL_commit_14 rfl h
    have h := s_neg q0 h
    by_cases q1 : E = "java/lang/IllegalStateException"
    · have h := s_pos q1 h
      subst q1
      refine ⟨[⟨0, 9, 12, 21⟩], ⟨0, 9, 15, 13⟩, [⟨0, 9, 18, 71⟩], rfl, List.forall_mem_cons.mpr ⟨⟨by decide, "java/lang/IllegalArgumentException", F_l21, by decide +kernel, by decide⟩, fun z hz => absurd hz List.not_mem_nil⟩, by decide, by decide, F_l13, by decide +kernel, fun q9 => ?_⟩
      show V 0 15 [(0, .ref (ad 0)), (1, .int p1), (2, .ref (ad 109))] [.ref q9] mx
      refine h_astore_n C dL_commit_15 rfl (by decide) (show _ = [(3, .ref q9), (0, .ref (ad 0)), (1, .int p1), (2, .ref (ad 109))] from rfl) ?_
      refine h_iconst C (v := 2) dL_commit_16 (by decide) ?_
      exact h_iret C dL_commit_17 rfl h
    have h := s_neg q1 h
    by_cases q2 : E = "java/lang/UnsupportedOperationException"
    · have h := s_pos q2 h
      subst q2
      refine ⟨[⟨0, 9, 12, 21⟩, ⟨0, 9, 15, 13⟩], ⟨0, 9, 18, 71⟩, [], rfl, List.forall_mem_cons.mpr ⟨⟨by decide, "java/lang/IllegalArgumentException", F_l21, by decide +kernel, by decide⟩, List.forall_mem_cons.mpr ⟨⟨by decide, "java/lang/IllegalStateException", F_l13, by decide +kernel, by decide⟩, fun z hz => absurd hz List.not_mem_nil⟩⟩, by decide, by decide, F_l71, by decide +kernel, fun q9 => ?_⟩
      show V 0 18 [(0, .ref (ad 0)), (1, .int p1), (2, .ref (ad 109))] [.ref q9] mx
      refine h_astore_n C dL_commit_18 rfl (by decide) (show _ = [(3, .ref q9), (0, .ref (ad 0)), (1, .int p1), (2, .ref (ad 109))] from rfl) ?_
      refine h_iconst C (v := 3) dL_commit_19 (by decide) ?_
      exact h_iret C dL_commit_20 rfl h
    have h := s_neg q2 h
    cases h
  show V 0 7 [(0, .ref (ad 0)), (1, .int p1), (2, .ref (ad 109))] [.int r1, .int 0, .ref (ad 109)] m2
  refine h_i2l C dL_commit_7 ?_
  refine h_last C dL_commit_8 (by omega) la_109 h (fun j1 m2 hj1 _ h => ?_)
  refine h_goto C (tgt := 21) dL_commit_9 (by decide) ?_
  refine h_iconst C (v := 0) dL_commit_21 (by decide) ?_
  exact h_iret C dL_commit_22 rfl h
noncomputable def f_L_reopen (m : sM) : Option (sR Int32) :=
  s_try (f_X9_reopen m) (fun r1 m2 => s_ix 0 1 fun j1 => s_md (s_uL m2 109 j1 (Int32.toInt64 r1)) fun m2 => some (.inl 0, m2)) (fun E mx => if E = "java/lang/IllegalStateException" then (some (.inl 1, mx)) else none)
set_option maxRecDepth 20000 in
set_option maxHeartbeats 4000000 in
theorem c_L_reopen : s_Con s_i 0 110 yL_reopen wsL_reopen 28 500 1 (f_L_reopen) (fun ad => [.ref (ad 0), .ref (ad 109)]) := by
  refine s_conH_of cL_reopen 3 (some .int) RL [(0, 8, 11, 13)] (by decide) rfl rfl (fun _ => Nat.le_of_ble_eq_true rfl) (fun ad m res V C h => ?_)
  unfold f_L_reopen at h
  have F_l13 : Cond.classLink RL 13 "java/lang/IllegalStateException" ∈ wsL_reopen := by decide +kernel
  show V 1 0 [(0, .ref (ad 0)), (1, .ref (ad 109))] [] m
  refine h_aload_n C dL_reopen_0 rfl 1 rfl ?_
  refine h_iconst C (v := 0) dL_reopen_1 (by decide) ?_
  refine h_aload_n C dL_reopen_2 rfl 0 rfl ?_
  refine h_callV C (c_X9_reopen 110 (by omega)) (As := []) (nn := 0) (stk := [.ref (ad 0), .int 0, .ref (ad 109)]) (ci := 9) dL_reopen_3 gL_reopen_X9_reopen ⟨rfl, by decide, by decide, by decide +kernel⟩ (by omega) la_0 rfl rfl rfl (by decide) rfl rfl (Nat.le_of_ble_eq_true rfl) (by decide) h (fun E mx h => ?_) (fun r1 m2 h => ?_)
  · skip
    by_cases q0 : E = "java/lang/IllegalStateException"
    · have h := s_pos q0 h
      subst q0
      refine ⟨[], ⟨0, 8, 11, 13⟩, [], rfl, (fun z hz => absurd hz List.not_mem_nil), by decide, by decide, F_l13, by decide +kernel, fun q9 => ?_⟩
      show V 0 11 [(0, .ref (ad 0)), (1, .ref (ad 109))] [.ref q9] mx
      refine h_astore_n C dL_reopen_11 rfl (by decide) (show _ = [(2, .ref q9), (0, .ref (ad 0)), (1, .ref (ad 109))] from rfl) ?_
      refine h_iconst C (v := 1) dL_reopen_12 (by decide) ?_
      exact h_iret C dL_reopen_13 rfl h
    have h := s_neg q0 h
    cases h
  show V 0 6 [(0, .ref (ad 0)), (1, .ref (ad 109))] [.int r1, .int 0, .ref (ad 109)] m2
  refine h_i2l C dL_reopen_6 ?_
  refine h_last C dL_reopen_7 (by omega) la_109 h (fun j1 m2 hj1 _ h => ?_)
  refine h_goto C (tgt := 14) dL_reopen_8 (by decide) ?_
  refine h_iconst C (v := 0) dL_reopen_14 (by decide) ?_
  exact h_iret C dL_reopen_15 rfl h
noncomputable def f_L_commitNumber (m : sM) : Option (sR Int32) :=
  s_try (f_X9_commitNumber m) (fun r1 m2 => s_ix 0 1 fun j1 => s_md (s_uL m2 109 j1 (Int32.toInt64 r1)) fun m2 => some (.inl 0, m2)) (fun E mx => if E = "java/lang/IllegalStateException" then (some (.inl 1, mx)) else none)
set_option maxRecDepth 20000 in
set_option maxHeartbeats 4000000 in
theorem c_L_commitNumber : s_Con s_i 0 110 yL_commitNumber wsL_commitNumber 16 230 1 (f_L_commitNumber) (fun ad => [.ref (ad 0), .ref (ad 109)]) := by
  refine s_conH_of cL_commitNumber 3 (some .int) RL [(0, 8, 11, 13)] (by decide) rfl rfl (fun _ => Nat.le_of_ble_eq_true rfl) (fun ad m res V C h => ?_)
  unfold f_L_commitNumber at h
  have F_l13 : Cond.classLink RL 13 "java/lang/IllegalStateException" ∈ wsL_commitNumber := by decide +kernel
  show V 1 0 [(0, .ref (ad 0)), (1, .ref (ad 109))] [] m
  refine h_aload_n C dL_commitNumber_0 rfl 1 rfl ?_
  refine h_iconst C (v := 0) dL_commitNumber_1 (by decide) ?_
  refine h_aload_n C dL_commitNumber_2 rfl 0 rfl ?_
  refine h_callV C (c_X9_commitNumber 110 (by omega)) (As := []) (nn := 0) (stk := [.ref (ad 0), .int 0, .ref (ad 109)]) (ci := 9) dL_commitNumber_3 gL_commitNumber_X9_commitNumber ⟨rfl, by decide, by decide, by decide +kernel⟩ (by omega) la_0 rfl rfl rfl (by decide) rfl rfl (Nat.le_of_ble_eq_true rfl) (by decide) h (fun E mx h => ?_) (fun r1 m2 h => ?_)
  · skip
    by_cases q0 : E = "java/lang/IllegalStateException"
    · have h := s_pos q0 h
      subst q0
      refine ⟨[], ⟨0, 8, 11, 13⟩, [], rfl, (fun z hz => absurd hz List.not_mem_nil), by decide, by decide, F_l13, by decide +kernel, fun q9 => ?_⟩
      show V 0 11 [(0, .ref (ad 0)), (1, .ref (ad 109))] [.ref q9] mx
      refine h_astore_n C dL_commitNumber_11 rfl (by decide) (show _ = [(2, .ref q9), (0, .ref (ad 0)), (1, .ref (ad 109))] from rfl) ?_
      refine h_iconst C (v := 1) dL_commitNumber_12 (by decide) ?_
      exact h_iret C dL_commitNumber_13 rfl h
    have h := s_neg q0 h
    cases h
  show V 0 6 [(0, .ref (ad 0)), (1, .ref (ad 109))] [.int r1, .int 0, .ref (ad 109)] m2
  refine h_i2l C dL_commitNumber_6 ?_
  refine h_last C dL_commitNumber_7 (by omega) la_109 h (fun j1 m2 hj1 _ h => ?_)
  refine h_goto C (tgt := 14) dL_commitNumber_8 (by decide) ?_
  refine h_iconst C (v := 0) dL_commitNumber_14 (by decide) ?_
  exact h_iret C dL_commitNumber_15 rfl h
noncomputable def f_L_size (m : sM) : Option (sR Int32) :=
  s_try (f_X9_size m) (fun r1 m2 => s_ix 0 1 fun j1 => s_md (s_uL m2 109 j1 (Int32.toInt64 r1)) fun m2 => some (.inl 0, m2)) (fun E mx => if E = "java/lang/IllegalStateException" then (some (.inl 1, mx)) else none)
set_option maxRecDepth 20000 in
set_option maxHeartbeats 4000000 in
theorem c_L_size : s_Con s_i 0 110 yL_size wsL_size 16 230 1 (f_L_size) (fun ad => [.ref (ad 0), .ref (ad 109)]) := by
  refine s_conH_of cL_size 3 (some .int) RL [(0, 8, 11, 13)] (by decide) rfl rfl (fun _ => Nat.le_of_ble_eq_true rfl) (fun ad m res V C h => ?_)
  unfold f_L_size at h
  have F_l13 : Cond.classLink RL 13 "java/lang/IllegalStateException" ∈ wsL_size := by decide +kernel
  show V 1 0 [(0, .ref (ad 0)), (1, .ref (ad 109))] [] m
  refine h_aload_n C dL_size_0 rfl 1 rfl ?_
  refine h_iconst C (v := 0) dL_size_1 (by decide) ?_
  refine h_aload_n C dL_size_2 rfl 0 rfl ?_
  refine h_callV C (c_X9_size 110 (by omega)) (As := []) (nn := 0) (stk := [.ref (ad 0), .int 0, .ref (ad 109)]) (ci := 9) dL_size_3 gL_size_X9_size ⟨rfl, by decide, by decide, by decide +kernel⟩ (by omega) la_0 rfl rfl rfl (by decide) rfl rfl (Nat.le_of_ble_eq_true rfl) (by decide) h (fun E mx h => ?_) (fun r1 m2 h => ?_)
  · skip
    by_cases q0 : E = "java/lang/IllegalStateException"
    · have h := s_pos q0 h
      subst q0
      refine ⟨[], ⟨0, 8, 11, 13⟩, [], rfl, (fun z hz => absurd hz List.not_mem_nil), by decide, by decide, F_l13, by decide +kernel, fun q9 => ?_⟩
      show V 0 11 [(0, .ref (ad 0)), (1, .ref (ad 109))] [.ref q9] mx
      refine h_astore_n C dL_size_11 rfl (by decide) (show _ = [(2, .ref q9), (0, .ref (ad 0)), (1, .ref (ad 109))] from rfl) ?_
      refine h_iconst C (v := 1) dL_size_12 (by decide) ?_
      exact h_iret C dL_size_13 rfl h
    have h := s_neg q0 h
    cases h
  show V 0 6 [(0, .ref (ad 0)), (1, .ref (ad 109))] [.int r1, .int 0, .ref (ad 109)] m2
  refine h_i2l C dL_size_6 ?_
  refine h_last C dL_size_7 (by omega) la_109 h (fun j1 m2 hj1 _ h => ?_)
  refine h_goto C (tgt := 14) dL_size_8 (by decide) ?_
  refine h_iconst C (v := 0) dL_size_14 (by decide) ?_
  exact h_iret C dL_size_15 rfl h
noncomputable def f_L_value (p1 : Int32) (m : sM) : Option (sR Int32) :=
  s_try (f_X9_value p1 m) (fun r1 m2 => s_ix 0 1 fun j1 => s_md (s_uL m2 109 j1 (Int32.toInt64 r1)) fun m2 => some (.inl 0, m2)) (fun E mx => if E = "java/lang/IllegalStateException" then (some (.inl 1, mx)) else if E = "java/lang/IllegalArgumentException" then (some (.inl 2, mx)) else if E = "java/util/NoSuchElementException" then (some (.inl 3, mx)) else none)
set_option maxRecDepth 20000 in
set_option maxHeartbeats 4000000 in
theorem c_L_value (p1 : Int32) : s_Con s_i 0 110 yL_value wsL_value 18 275 3 (f_L_value p1) (fun ad => [.ref (ad 0), .int p1, .ref (ad 109)]) := by
  refine s_conH_of cL_value 4 (some .int) RL [(0, 9, 12, 13), (0, 9, 15, 21), (0, 9, 18, 27)] (by decide) rfl rfl (fun _ => Nat.le_of_ble_eq_true rfl) (fun ad m res V C h => ?_)
  unfold f_L_value at h
  have F_l13 : Cond.classLink RL 13 "java/lang/IllegalStateException" ∈ wsL_value := by decide +kernel
  have F_l21 : Cond.classLink RL 21 "java/lang/IllegalArgumentException" ∈ wsL_value := by decide +kernel
  have F_l27 : Cond.classLink RL 27 "java/util/NoSuchElementException" ∈ wsL_value := by decide +kernel
  show V 3 0 [(0, .ref (ad 0)), (1, .int p1), (2, .ref (ad 109))] [] m
  refine h_aload_n C dL_value_0 rfl 2 rfl ?_
  refine h_iconst C (v := 0) dL_value_1 (by decide) ?_
  refine h_aload_n C dL_value_2 rfl 0 rfl ?_
  refine h_iload_n C dL_value_3 rfl 1 rfl ?_
  refine h_callV C (c_X9_value 110 (by omega) p1) (As := [.int p1]) (nn := 1) (stk := [.int p1, .ref (ad 0), .int 0, .ref (ad 109)]) (ci := 9) dL_value_4 gL_value_X9_value ⟨rfl, by decide, by decide, by decide +kernel⟩ (by omega) la_0 rfl rfl rfl (by decide) rfl rfl (Nat.le_of_ble_eq_true rfl) (by decide) h (fun E mx h => ?_) (fun r1 m2 h => ?_)
  · skip
    by_cases q0 : E = "java/lang/IllegalStateException"
    · have h := s_pos q0 h
      subst q0
      refine ⟨[], ⟨0, 9, 12, 13⟩, [⟨0, 9, 15, 21⟩, ⟨0, 9, 18, 27⟩], rfl, (fun z hz => absurd hz List.not_mem_nil), by decide, by decide, F_l13, by decide +kernel, fun q9 => ?_⟩
      show V 0 12 [(0, .ref (ad 0)), (1, .int p1), (2, .ref (ad 109))] [.ref q9] mx
      refine h_astore_n C dL_value_12 rfl (by decide) (show _ = [(3, .ref q9), (0, .ref (ad 0)), (1, .int p1), (2, .ref (ad 109))] from rfl) ?_
      refine h_iconst C (v := 1) dL_value_13 (by decide) ?_
      exact h_iret C dL_value_14 rfl h
    have h := s_neg q0 h
    by_cases q1 : E = "java/lang/IllegalArgumentException"
    · have h := s_pos q1 h
      subst q1
      refine ⟨[⟨0, 9, 12, 13⟩], ⟨0, 9, 15, 21⟩, [⟨0, 9, 18, 27⟩], rfl, List.forall_mem_cons.mpr ⟨⟨by decide, "java/lang/IllegalStateException", F_l13, by decide +kernel, by decide⟩, fun z hz => absurd hz List.not_mem_nil⟩, by decide, by decide, F_l21, by decide +kernel, fun q9 => ?_⟩
      show V 0 15 [(0, .ref (ad 0)), (1, .int p1), (2, .ref (ad 109))] [.ref q9] mx
      refine h_astore_n C dL_value_15 rfl (by decide) (show _ = [(3, .ref q9), (0, .ref (ad 0)), (1, .int p1), (2, .ref (ad 109))] from rfl) ?_
      refine h_iconst C (v := 2) dL_value_16 (by decide) ?_
      exact h_iret C dL_value_17 rfl h
    have h := s_neg q1 h
    by_cases q2 : E = "java/util/NoSuchElementException"
    · have h := s_pos q2 h
      subst q2
      refine ⟨[⟨0, 9, 12, 13⟩, ⟨0, 9, 15, 21⟩], ⟨0, 9, 18, 27⟩, [], rfl, List.forall_mem_cons.mpr ⟨⟨by decide, "java/lang/IllegalStateException", F_l13, by decide +kernel, by decide⟩, List.forall_mem_cons.mpr ⟨⟨by decide, "java/lang/IllegalArgumentException", F_l21, by decide +kernel, by decide⟩, fun z hz => absurd hz List.not_mem_nil⟩⟩, by decide, by decide, F_l27, by decide +kernel, fun q9 => ?_⟩
      show V 0 18 [(0, .ref (ad 0)), (1, .int p1), (2, .ref (ad 109))] [.ref q9] mx
      refine h_astore_n C dL_value_18 rfl (by decide) (show _ = [(3, .ref q9), (0, .ref (ad 0)), (1, .int p1), (2, .ref (ad 109))] from rfl) ?_
      refine h_iconst C (v := 3) dL_value_19 (by decide) ?_
      exact h_iret C dL_value_20 rfl h
    have h := s_neg q2 h
    cases h
  show V 0 7 [(0, .ref (ad 0)), (1, .int p1), (2, .ref (ad 109))] [.int r1, .int 0, .ref (ad 109)] m2
  refine h_i2l C dL_value_7 ?_
  refine h_last C dL_value_8 (by omega) la_109 h (fun j1 m2 hj1 _ h => ?_)
  refine h_goto C (tgt := 21) dL_value_9 (by decide) ?_
  refine h_iconst C (v := 0) dL_value_21 (by decide) ?_
  exact h_iret C dL_value_22 rfl h
noncomputable def f_L_keyAt (p1 : Int32) (m : sM) : Option (sR Int32) :=
  s_try (f_X9_keyAt p1 m) (fun r1 m2 => s_ix 0 1 fun j1 => s_md (s_uL m2 109 j1 (Int32.toInt64 r1)) fun m2 => some (.inl 0, m2)) (fun E mx => if E = "java/lang/IllegalStateException" then (some (.inl 1, mx)) else if E = "java/lang/IndexOutOfBoundsException" then (some (.inl 2, mx)) else none)
set_option maxRecDepth 20000 in
set_option maxHeartbeats 4000000 in
theorem c_L_keyAt (p1 : Int32) : s_Con s_i 0 110 yL_keyAt wsL_keyAt 18 275 2 (f_L_keyAt p1) (fun ad => [.ref (ad 0), .int p1, .ref (ad 109)]) := by
  refine s_conH_of cL_keyAt 4 (some .int) RL [(0, 9, 12, 13), (0, 9, 15, 19)] (by decide) rfl rfl (fun _ => Nat.le_of_ble_eq_true rfl) (fun ad m res V C h => ?_)
  unfold f_L_keyAt at h
  have F_l13 : Cond.classLink RL 13 "java/lang/IllegalStateException" ∈ wsL_keyAt := by decide +kernel
  have F_l19 : Cond.classLink RL 19 "java/lang/IndexOutOfBoundsException" ∈ wsL_keyAt := by decide +kernel
  show V 2 0 [(0, .ref (ad 0)), (1, .int p1), (2, .ref (ad 109))] [] m
  refine h_aload_n C dL_keyAt_0 rfl 2 rfl ?_
  refine h_iconst C (v := 0) dL_keyAt_1 (by decide) ?_
  refine h_aload_n C dL_keyAt_2 rfl 0 rfl ?_
  refine h_iload_n C dL_keyAt_3 rfl 1 rfl ?_
  refine h_callV C (c_X9_keyAt 110 (by omega) p1) (As := [.int p1]) (nn := 1) (stk := [.int p1, .ref (ad 0), .int 0, .ref (ad 109)]) (ci := 9) dL_keyAt_4 gL_keyAt_X9_keyAt ⟨rfl, by decide, by decide, by decide +kernel⟩ (by omega) la_0 rfl rfl rfl (by decide) rfl rfl (Nat.le_of_ble_eq_true rfl) (by decide) h (fun E mx h => ?_) (fun r1 m2 h => ?_)
  · skip
    by_cases q0 : E = "java/lang/IllegalStateException"
    · have h := s_pos q0 h
      subst q0
      refine ⟨[], ⟨0, 9, 12, 13⟩, [⟨0, 9, 15, 19⟩], rfl, (fun z hz => absurd hz List.not_mem_nil), by decide, by decide, F_l13, by decide +kernel, fun q9 => ?_⟩
      show V 0 12 [(0, .ref (ad 0)), (1, .int p1), (2, .ref (ad 109))] [.ref q9] mx
      refine h_astore_n C dL_keyAt_12 rfl (by decide) (show _ = [(3, .ref q9), (0, .ref (ad 0)), (1, .int p1), (2, .ref (ad 109))] from rfl) ?_
      refine h_iconst C (v := 1) dL_keyAt_13 (by decide) ?_
      exact h_iret C dL_keyAt_14 rfl h
    have h := s_neg q0 h
    by_cases q1 : E = "java/lang/IndexOutOfBoundsException"
    · have h := s_pos q1 h
      subst q1
      refine ⟨[⟨0, 9, 12, 13⟩], ⟨0, 9, 15, 19⟩, [], rfl, List.forall_mem_cons.mpr ⟨⟨by decide, "java/lang/IllegalStateException", F_l13, by decide +kernel, by decide⟩, fun z hz => absurd hz List.not_mem_nil⟩, by decide, by decide, F_l19, by decide +kernel, fun q9 => ?_⟩
      show V 0 15 [(0, .ref (ad 0)), (1, .int p1), (2, .ref (ad 109))] [.ref q9] mx
      refine h_astore_n C dL_keyAt_15 rfl (by decide) (show _ = [(3, .ref q9), (0, .ref (ad 0)), (1, .int p1), (2, .ref (ad 109))] from rfl) ?_
      refine h_iconst C (v := 2) dL_keyAt_16 (by decide) ?_
      exact h_iret C dL_keyAt_17 rfl h
    have h := s_neg q1 h
    cases h
  show V 0 7 [(0, .ref (ad 0)), (1, .int p1), (2, .ref (ad 109))] [.int r1, .int 0, .ref (ad 109)] m2
  refine h_i2l C dL_keyAt_7 ?_
  refine h_last C dL_keyAt_8 (by omega) la_109 h (fun j1 m2 hj1 _ h => ?_)
  refine h_goto C (tgt := 18) dL_keyAt_9 (by decide) ?_
  refine h_iconst C (v := 0) dL_keyAt_18 (by decide) ?_
  exact h_iret C dL_keyAt_19 rfl h
noncomputable def f_L_sum (p1 : Int32) (p2 : Int32) (m : sM) : Option (sR Int32) :=
  s_try (f_X9_sum p1 p2 m) (fun r1 m2 => s_ix 0 1 fun j1 => s_md (s_uL m2 109 j1 (Int32.toInt64 r1)) fun m2 => some (.inl 0, m2)) (fun E mx => if E = "java/lang/IllegalStateException" then (some (.inl 1, mx)) else if E = "java/lang/IllegalArgumentException" then (some (.inl 2, mx)) else none)
set_option maxRecDepth 20000 in
set_option maxHeartbeats 4000000 in
theorem c_L_sum (p1 : Int32) (p2 : Int32) : s_Con s_i 0 110 yL_sum wsL_sum 16 230 4 (f_L_sum p1 p2) (fun ad => [.ref (ad 0), .int p1, .int p2, .ref (ad 109)]) := by
  refine s_conH_of cL_sum 5 (some .int) RL [(0, 10, 13, 13), (0, 10, 17, 21)] (by decide) rfl rfl (fun _ => Nat.le_of_ble_eq_true rfl) (fun ad m res V C h => ?_)
  unfold f_L_sum at h
  have F_l13 : Cond.classLink RL 13 "java/lang/IllegalStateException" ∈ wsL_sum := by decide +kernel
  have F_l21 : Cond.classLink RL 21 "java/lang/IllegalArgumentException" ∈ wsL_sum := by decide +kernel
  show V 4 0 [(0, .ref (ad 0)), (1, .int p1), (2, .int p2), (3, .ref (ad 109))] [] m
  refine h_aload_n C dL_sum_0 rfl 3 rfl ?_
  refine h_iconst C (v := 0) dL_sum_1 (by decide) ?_
  refine h_aload_n C dL_sum_2 rfl 0 rfl ?_
  refine h_iload_n C dL_sum_3 rfl 1 rfl ?_
  refine h_iload_n C dL_sum_4 rfl 2 rfl ?_
  refine h_callV C (c_X9_sum 110 (by omega) p1 p2) (As := [.int p1, .int p2]) (nn := 2) (stk := [.int p2, .int p1, .ref (ad 0), .int 0, .ref (ad 109)]) (ci := 9) dL_sum_5 gL_sum_X9_sum ⟨rfl, by decide, by decide, by decide +kernel⟩ (by omega) la_0 rfl rfl rfl (by decide) rfl rfl (Nat.le_of_ble_eq_true rfl) (by decide) h (fun E mx h => ?_) (fun r1 m2 h => ?_)
  · skip
    by_cases q0 : E = "java/lang/IllegalStateException"
    · have h := s_pos q0 h
      subst q0
      refine ⟨[], ⟨0, 10, 13, 13⟩, [⟨0, 10, 17, 21⟩], rfl, (fun z hz => absurd hz List.not_mem_nil), by decide, by decide, F_l13, by decide +kernel, fun q9 => ?_⟩
      show V 0 13 [(0, .ref (ad 0)), (1, .int p1), (2, .int p2), (3, .ref (ad 109))] [.ref q9] mx
      refine h_astore C dL_sum_13 (by decide) (show _ = [(4, .ref q9), (0, .ref (ad 0)), (1, .int p1), (2, .int p2), (3, .ref (ad 109))] from rfl) ?_
      refine h_iconst C (v := 1) dL_sum_15 (by decide) ?_
      exact h_iret C dL_sum_16 rfl h
    have h := s_neg q0 h
    by_cases q1 : E = "java/lang/IllegalArgumentException"
    · have h := s_pos q1 h
      subst q1
      refine ⟨[⟨0, 10, 13, 13⟩], ⟨0, 10, 17, 21⟩, [], rfl, List.forall_mem_cons.mpr ⟨⟨by decide, "java/lang/IllegalStateException", F_l13, by decide +kernel, by decide⟩, fun z hz => absurd hz List.not_mem_nil⟩, by decide, by decide, F_l21, by decide +kernel, fun q9 => ?_⟩
      show V 0 17 [(0, .ref (ad 0)), (1, .int p1), (2, .int p2), (3, .ref (ad 109))] [.ref q9] mx
      refine h_astore C dL_sum_17 (by decide) (show _ = [(4, .ref q9), (0, .ref (ad 0)), (1, .int p1), (2, .int p2), (3, .ref (ad 109))] from rfl) ?_
      refine h_iconst C (v := 2) dL_sum_19 (by decide) ?_
      exact h_iret C dL_sum_20 rfl h
    have h := s_neg q1 h
    cases h
  show V 0 8 [(0, .ref (ad 0)), (1, .int p1), (2, .int p2), (3, .ref (ad 109))] [.int r1, .int 0, .ref (ad 109)] m2
  refine h_i2l C dL_sum_8 ?_
  refine h_last C dL_sum_9 (by omega) la_109 h (fun j1 m2 hj1 _ h => ?_)
  refine h_goto C (tgt := 21) dL_sum_10 (by decide) ?_
  refine h_iconst C (v := 0) dL_sum_21 (by decide) ?_
  exact h_iret C dL_sum_22 rfl h
noncomputable def f_L_pageBlock (p1 : Int32) (m : sM) : Option (sR Int32) :=
  s_try (f_X9_pageBlock p1 m) (fun r1 m2 => s_ix 0 1 fun j1 => s_md (s_uL m2 109 j1 (Int32.toInt64 r1)) fun m2 => some (.inl 0, m2)) (fun E mx => if E = "java/lang/IllegalStateException" then (some (.inl 1, mx)) else if E = "java/lang/IndexOutOfBoundsException" then (some (.inl 2, mx)) else none)
set_option maxRecDepth 20000 in
set_option maxHeartbeats 4000000 in
theorem c_L_pageBlock (p1 : Int32) : s_Con s_i 0 110 yL_pageBlock wsL_pageBlock 16 230 2 (f_L_pageBlock p1) (fun ad => [.ref (ad 0), .int p1, .ref (ad 109)]) := by
  refine s_conH_of cL_pageBlock 4 (some .int) RL [(0, 9, 12, 13), (0, 9, 15, 19)] (by decide) rfl rfl (fun _ => Nat.le_of_ble_eq_true rfl) (fun ad m res V C h => ?_)
  unfold f_L_pageBlock at h
  have F_l13 : Cond.classLink RL 13 "java/lang/IllegalStateException" ∈ wsL_pageBlock := by decide +kernel
  have F_l19 : Cond.classLink RL 19 "java/lang/IndexOutOfBoundsException" ∈ wsL_pageBlock := by decide +kernel
  show V 2 0 [(0, .ref (ad 0)), (1, .int p1), (2, .ref (ad 109))] [] m
  refine h_aload_n C dL_pageBlock_0 rfl 2 rfl ?_
  refine h_iconst C (v := 0) dL_pageBlock_1 (by decide) ?_
  refine h_aload_n C dL_pageBlock_2 rfl 0 rfl ?_
  refine h_iload_n C dL_pageBlock_3 rfl 1 rfl ?_
  refine h_callV C (c_X9_pageBlock 110 (by omega) p1) (As := [.int p1]) (nn := 1) (stk := [.int p1, .ref (ad 0), .int 0, .ref (ad 109)]) (ci := 9) dL_pageBlock_4 gL_pageBlock_X9_pageBlock ⟨rfl, by decide, by decide, by decide +kernel⟩ (by omega) la_0 rfl rfl rfl (by decide) rfl rfl (Nat.le_of_ble_eq_true rfl) (by decide) h (fun E mx h => ?_) (fun r1 m2 h => ?_)
  · skip
    by_cases q0 : E = "java/lang/IllegalStateException"
    · have h := s_pos q0 h
      subst q0
      refine ⟨[], ⟨0, 9, 12, 13⟩, [⟨0, 9, 15, 19⟩], rfl, (fun z hz => absurd hz List.not_mem_nil), by decide, by decide, F_l13, by decide +kernel, fun q9 => ?_⟩
      show V 0 12 [(0, .ref (ad 0)), (1, .int p1), (2, .ref (ad 109))] [.ref q9] mx
      refine h_astore_n C dL_pageBlock_12 rfl (by decide) (show _ = [(3, .ref q9), (0, .ref (ad 0)), (1, .int p1), (2, .ref (ad 109))] from rfl) ?_
      refine h_iconst C (v := 1) dL_pageBlock_13 (by decide) ?_
      exact h_iret C dL_pageBlock_14 rfl h
    have h := s_neg q0 h
    by_cases q1 : E = "java/lang/IndexOutOfBoundsException"
    · have h := s_pos q1 h
      subst q1
      refine ⟨[⟨0, 9, 12, 13⟩], ⟨0, 9, 15, 19⟩, [], rfl, List.forall_mem_cons.mpr ⟨⟨by decide, "java/lang/IllegalStateException", F_l13, by decide +kernel, by decide⟩, fun z hz => absurd hz List.not_mem_nil⟩, by decide, by decide, F_l19, by decide +kernel, fun q9 => ?_⟩
      show V 0 15 [(0, .ref (ad 0)), (1, .int p1), (2, .ref (ad 109))] [.ref q9] mx
      refine h_astore_n C dL_pageBlock_15 rfl (by decide) (show _ = [(3, .ref q9), (0, .ref (ad 0)), (1, .int p1), (2, .ref (ad 109))] from rfl) ?_
      refine h_iconst C (v := 2) dL_pageBlock_16 (by decide) ?_
      exact h_iret C dL_pageBlock_17 rfl h
    have h := s_neg q1 h
    cases h
  show V 0 7 [(0, .ref (ad 0)), (1, .int p1), (2, .ref (ad 109))] [.int r1, .int 0, .ref (ad 109)] m2
  refine h_i2l C dL_pageBlock_7 ?_
  refine h_last C dL_pageBlock_8 (by omega) la_109 h (fun j1 m2 hj1 _ h => ?_)
  refine h_goto C (tgt := 18) dL_pageBlock_9 (by decide) ?_
  refine h_iconst C (v := 0) dL_pageBlock_18 (by decide) ?_
  exact h_iret C dL_pageBlock_19 rfl h
noncomputable def f_L_freeCount (m : sM) : Option (sR Int32) :=
  s_try (f_X9_freeCount m) (fun r1 m2 => s_ix 0 1 fun j1 => s_md (s_uL m2 109 j1 (Int32.toInt64 r1)) fun m2 => some (.inl 0, m2)) (fun E mx => if E = "java/lang/IllegalStateException" then (some (.inl 1, mx)) else none)
set_option maxRecDepth 20000 in
set_option maxHeartbeats 4000000 in
theorem c_L_freeCount : s_Con s_i 0 110 yL_freeCount wsL_freeCount 20 320 1 (f_L_freeCount) (fun ad => [.ref (ad 0), .ref (ad 109)]) := by
  refine s_conH_of cL_freeCount 3 (some .int) RL [(0, 8, 11, 13)] (by decide) rfl rfl (fun _ => Nat.le_of_ble_eq_true rfl) (fun ad m res V C h => ?_)
  unfold f_L_freeCount at h
  have F_l13 : Cond.classLink RL 13 "java/lang/IllegalStateException" ∈ wsL_freeCount := by decide +kernel
  show V 1 0 [(0, .ref (ad 0)), (1, .ref (ad 109))] [] m
  refine h_aload_n C dL_freeCount_0 rfl 1 rfl ?_
  refine h_iconst C (v := 0) dL_freeCount_1 (by decide) ?_
  refine h_aload_n C dL_freeCount_2 rfl 0 rfl ?_
  refine h_callV C (c_X9_freeCount 110 (by omega)) (As := []) (nn := 0) (stk := [.ref (ad 0), .int 0, .ref (ad 109)]) (ci := 9) dL_freeCount_3 gL_freeCount_X9_freeCount ⟨rfl, by decide, by decide, by decide +kernel⟩ (by omega) la_0 rfl rfl rfl (by decide) rfl rfl (Nat.le_of_ble_eq_true rfl) (by decide) h (fun E mx h => ?_) (fun r1 m2 h => ?_)
  · skip
    by_cases q0 : E = "java/lang/IllegalStateException"
    · have h := s_pos q0 h
      subst q0
      refine ⟨[], ⟨0, 8, 11, 13⟩, [], rfl, (fun z hz => absurd hz List.not_mem_nil), by decide, by decide, F_l13, by decide +kernel, fun q9 => ?_⟩
      show V 0 11 [(0, .ref (ad 0)), (1, .ref (ad 109))] [.ref q9] mx
      refine h_astore_n C dL_freeCount_11 rfl (by decide) (show _ = [(2, .ref q9), (0, .ref (ad 0)), (1, .ref (ad 109))] from rfl) ?_
      refine h_iconst C (v := 1) dL_freeCount_12 (by decide) ?_
      exact h_iret C dL_freeCount_13 rfl h
    have h := s_neg q0 h
    cases h
  show V 0 6 [(0, .ref (ad 0)), (1, .ref (ad 109))] [.int r1, .int 0, .ref (ad 109)] m2
  refine h_i2l C dL_freeCount_6 ?_
  refine h_last C dL_freeCount_7 (by omega) la_109 h (fun j1 m2 hj1 _ h => ?_)
  refine h_goto C (tgt := 14) dL_freeCount_8 (by decide) ?_
  refine h_iconst C (v := 0) dL_freeCount_14 (by decide) ?_
  exact h_iret C dL_freeCount_15 rfl h
noncomputable def f_L_freeBlock (p1 : Int32) (m : sM) : Option (sR Int32) :=
  s_try (f_X9_freeBlock p1 m) (fun r1 m2 => s_ix 0 1 fun j1 => s_md (s_uL m2 109 j1 (Int32.toInt64 r1)) fun m2 => some (.inl 0, m2)) (fun E mx => if E = "java/lang/IllegalStateException" then (some (.inl 1, mx)) else if E = "java/lang/IndexOutOfBoundsException" then (some (.inl 2, mx)) else none)
set_option maxRecDepth 20000 in
set_option maxHeartbeats 4000000 in
theorem c_L_freeBlock (p1 : Int32) : s_Con s_i 0 110 yL_freeBlock wsL_freeBlock 20 320 2 (f_L_freeBlock p1) (fun ad => [.ref (ad 0), .int p1, .ref (ad 109)]) := by
  refine s_conH_of cL_freeBlock 4 (some .int) RL [(0, 9, 12, 13), (0, 9, 15, 19)] (by decide) rfl rfl (fun _ => Nat.le_of_ble_eq_true rfl) (fun ad m res V C h => ?_)
  unfold f_L_freeBlock at h
  have F_l13 : Cond.classLink RL 13 "java/lang/IllegalStateException" ∈ wsL_freeBlock := by decide +kernel
  have F_l19 : Cond.classLink RL 19 "java/lang/IndexOutOfBoundsException" ∈ wsL_freeBlock := by decide +kernel
  show V 2 0 [(0, .ref (ad 0)), (1, .int p1), (2, .ref (ad 109))] [] m
  refine h_aload_n C dL_freeBlock_0 rfl 2 rfl ?_
  refine h_iconst C (v := 0) dL_freeBlock_1 (by decide) ?_
  refine h_aload_n C dL_freeBlock_2 rfl 0 rfl ?_
  refine h_iload_n C dL_freeBlock_3 rfl 1 rfl ?_
  refine h_callV C (c_X9_freeBlock 110 (by omega) p1) (As := [.int p1]) (nn := 1) (stk := [.int p1, .ref (ad 0), .int 0, .ref (ad 109)]) (ci := 9) dL_freeBlock_4 gL_freeBlock_X9_freeBlock ⟨rfl, by decide, by decide, by decide +kernel⟩ (by omega) la_0 rfl rfl rfl (by decide) rfl rfl (Nat.le_of_ble_eq_true rfl) (by decide) h (fun E mx h => ?_) (fun r1 m2 h => ?_)
  · skip
    by_cases q0 : E = "java/lang/IllegalStateException"
    · have h := s_pos q0 h
      subst q0
      refine ⟨[], ⟨0, 9, 12, 13⟩, [⟨0, 9, 15, 19⟩], rfl, (fun z hz => absurd hz List.not_mem_nil), by decide, by decide, F_l13, by decide +kernel, fun q9 => ?_⟩
      show V 0 12 [(0, .ref (ad 0)), (1, .int p1), (2, .ref (ad 109))] [.ref q9] mx
      refine h_astore_n C dL_freeBlock_12 rfl (by decide) (show _ = [(3, .ref q9), (0, .ref (ad 0)), (1, .int p1), (2, .ref (ad 109))] from rfl) ?_
      refine h_iconst C (v := 1) dL_freeBlock_13 (by decide) ?_
      exact h_iret C dL_freeBlock_14 rfl h
    have h := s_neg q0 h
    by_cases q1 : E = "java/lang/IndexOutOfBoundsException"
    · have h := s_pos q1 h
      subst q1
      refine ⟨[⟨0, 9, 12, 13⟩], ⟨0, 9, 15, 19⟩, [], rfl, List.forall_mem_cons.mpr ⟨⟨by decide, "java/lang/IllegalStateException", F_l13, by decide +kernel, by decide⟩, fun z hz => absurd hz List.not_mem_nil⟩, by decide, by decide, F_l19, by decide +kernel, fun q9 => ?_⟩
      show V 0 15 [(0, .ref (ad 0)), (1, .int p1), (2, .ref (ad 109))] [.ref q9] mx
      refine h_astore_n C dL_freeBlock_15 rfl (by decide) (show _ = [(3, .ref q9), (0, .ref (ad 0)), (1, .int p1), (2, .ref (ad 109))] from rfl) ?_
      refine h_iconst C (v := 2) dL_freeBlock_16 (by decide) ?_
      exact h_iret C dL_freeBlock_17 rfl h
    have h := s_neg q1 h
    cases h
  show V 0 7 [(0, .ref (ad 0)), (1, .int p1), (2, .ref (ad 109))] [.int r1, .int 0, .ref (ad 109)] m2
  refine h_i2l C dL_freeBlock_7 ?_
  refine h_last C dL_freeBlock_8 (by omega) la_109 h (fun j1 m2 hj1 _ h => ?_)
  refine h_goto C (tgt := 18) dL_freeBlock_9 (by decide) ?_
  refine h_iconst C (v := 0) dL_freeBlock_18 (by decide) ?_
  exact h_iret C dL_freeBlock_19 rfl h
noncomputable def f_L_wrongBlock (m : sM) : Option (sR Int32) :=
  s_try (f_X9_wrongBlock m) (fun r1 m2 => s_ix 0 1 fun j1 => s_md (s_uL m2 109 j1 (Int32.toInt64 r1)) fun m2 => some (.inl 0, m2)) (fun E mx => if E = "java/lang/IllegalStateException" then (some (.inl 1, mx)) else none)
set_option maxRecDepth 20000 in
set_option maxHeartbeats 4000000 in
theorem c_L_wrongBlock : s_Con s_i 0 110 yL_wrongBlock wsL_wrongBlock 22 365 1 (f_L_wrongBlock) (fun ad => [.ref (ad 0), .ref (ad 109)]) := by
  refine s_conH_of cL_wrongBlock 3 (some .int) RL [(0, 8, 11, 13)] (by decide) rfl rfl (fun _ => Nat.le_of_ble_eq_true rfl) (fun ad m res V C h => ?_)
  unfold f_L_wrongBlock at h
  have F_l13 : Cond.classLink RL 13 "java/lang/IllegalStateException" ∈ wsL_wrongBlock := by decide +kernel
  show V 1 0 [(0, .ref (ad 0)), (1, .ref (ad 109))] [] m
  refine h_aload_n C dL_wrongBlock_0 rfl 1 rfl ?_
  refine h_iconst C (v := 0) dL_wrongBlock_1 (by decide) ?_
  refine h_aload_n C dL_wrongBlock_2 rfl 0 rfl ?_
  refine h_callV C (c_X9_wrongBlock 110 (by omega)) (As := []) (nn := 0) (stk := [.ref (ad 0), .int 0, .ref (ad 109)]) (ci := 9) dL_wrongBlock_3 gL_wrongBlock_X9_wrongBlock ⟨rfl, by decide, by decide, by decide +kernel⟩ (by omega) la_0 rfl rfl rfl (by decide) rfl rfl (Nat.le_of_ble_eq_true rfl) (by decide) h (fun E mx h => ?_) (fun r1 m2 h => ?_)
  · skip
    by_cases q0 : E = "java/lang/IllegalStateException"
    · have h := s_pos q0 h
      subst q0
      refine ⟨[], ⟨0, 8, 11, 13⟩, [], rfl, (fun z hz => absurd hz List.not_mem_nil), by decide, by decide, F_l13, by decide +kernel, fun q9 => ?_⟩
      show V 0 11 [(0, .ref (ad 0)), (1, .ref (ad 109))] [.ref q9] mx
      refine h_astore_n C dL_wrongBlock_11 rfl (by decide) (show _ = [(2, .ref q9), (0, .ref (ad 0)), (1, .ref (ad 109))] from rfl) ?_
      refine h_iconst C (v := 1) dL_wrongBlock_12 (by decide) ?_
      exact h_iret C dL_wrongBlock_13 rfl h
    have h := s_neg q0 h
    cases h
  show V 0 6 [(0, .ref (ad 0)), (1, .ref (ad 109))] [.int r1, .int 0, .ref (ad 109)] m2
  refine h_i2l C dL_wrongBlock_6 ?_
  refine h_last C dL_wrongBlock_7 (by omega) la_109 h (fun j1 m2 hj1 _ h => ?_)
  refine h_goto C (tgt := 14) dL_wrongBlock_8 (by decide) ?_
  refine h_iconst C (v := 0) dL_wrongBlock_14 (by decide) ?_
  exact h_iret C dL_wrongBlock_15 rfl h
noncomputable def f_L_logged (p1 : Int32) (p2 : Int32) (m : sM) : Option (sR Int32) :=
  s_try (f_X9_logged p1 p2 m) (fun r1 m2 => s_ix 0 1 fun j1 => s_md (s_uL m2 109 j1 (Int32.toInt64 r1)) fun m2 => some (.inl 0, m2)) (fun E mx => if E = "java/lang/IndexOutOfBoundsException" then (some (.inl 1, mx)) else if E = "java/lang/IllegalArgumentException" then (some (.inl 2, mx)) else none)
set_option maxRecDepth 20000 in
set_option maxHeartbeats 4000000 in
theorem c_L_logged (p1 : Int32) (p2 : Int32) : s_Con s_i 0 110 yL_logged wsL_logged 16 230 2 (f_L_logged p1 p2) (fun ad => [.ref (ad 0), .int p1, .int p2, .ref (ad 109)]) := by
  refine s_conH_of cL_logged 5 (some .int) RL [(0, 10, 13, 19), (0, 10, 17, 21)] (by decide) rfl rfl (fun _ => Nat.le_of_ble_eq_true rfl) (fun ad m res V C h => ?_)
  unfold f_L_logged at h
  have F_l19 : Cond.classLink RL 19 "java/lang/IndexOutOfBoundsException" ∈ wsL_logged := by decide +kernel
  have F_l21 : Cond.classLink RL 21 "java/lang/IllegalArgumentException" ∈ wsL_logged := by decide +kernel
  show V 2 0 [(0, .ref (ad 0)), (1, .int p1), (2, .int p2), (3, .ref (ad 109))] [] m
  refine h_aload_n C dL_logged_0 rfl 3 rfl ?_
  refine h_iconst C (v := 0) dL_logged_1 (by decide) ?_
  refine h_aload_n C dL_logged_2 rfl 0 rfl ?_
  refine h_iload_n C dL_logged_3 rfl 1 rfl ?_
  refine h_iload_n C dL_logged_4 rfl 2 rfl ?_
  refine h_callV C (c_X9_logged 110 (by omega) p1 p2) (As := [.int p1, .int p2]) (nn := 2) (stk := [.int p2, .int p1, .ref (ad 0), .int 0, .ref (ad 109)]) (ci := 9) dL_logged_5 gL_logged_X9_logged ⟨rfl, by decide, by decide, by decide +kernel⟩ (by omega) la_0 rfl rfl rfl (by decide) rfl rfl (Nat.le_of_ble_eq_true rfl) (by decide) h (fun E mx h => ?_) (fun r1 m2 h => ?_)
  · skip
    by_cases q0 : E = "java/lang/IndexOutOfBoundsException"
    · have h := s_pos q0 h
      subst q0
      refine ⟨[], ⟨0, 10, 13, 19⟩, [⟨0, 10, 17, 21⟩], rfl, (fun z hz => absurd hz List.not_mem_nil), by decide, by decide, F_l19, by decide +kernel, fun q9 => ?_⟩
      show V 0 13 [(0, .ref (ad 0)), (1, .int p1), (2, .int p2), (3, .ref (ad 109))] [.ref q9] mx
      refine h_astore C dL_logged_13 (by decide) (show _ = [(4, .ref q9), (0, .ref (ad 0)), (1, .int p1), (2, .int p2), (3, .ref (ad 109))] from rfl) ?_
      refine h_iconst C (v := 1) dL_logged_15 (by decide) ?_
      exact h_iret C dL_logged_16 rfl h
    have h := s_neg q0 h
    by_cases q1 : E = "java/lang/IllegalArgumentException"
    · have h := s_pos q1 h
      subst q1
      refine ⟨[⟨0, 10, 13, 19⟩], ⟨0, 10, 17, 21⟩, [], rfl, List.forall_mem_cons.mpr ⟨⟨by decide, "java/lang/IndexOutOfBoundsException", F_l19, by decide +kernel, by decide⟩, fun z hz => absurd hz List.not_mem_nil⟩, by decide, by decide, F_l21, by decide +kernel, fun q9 => ?_⟩
      show V 0 17 [(0, .ref (ad 0)), (1, .int p1), (2, .int p2), (3, .ref (ad 109))] [.ref q9] mx
      refine h_astore C dL_logged_17 (by decide) (show _ = [(4, .ref q9), (0, .ref (ad 0)), (1, .int p1), (2, .int p2), (3, .ref (ad 109))] from rfl) ?_
      refine h_iconst C (v := 2) dL_logged_19 (by decide) ?_
      exact h_iret C dL_logged_20 rfl h
    have h := s_neg q1 h
    cases h
  show V 0 8 [(0, .ref (ad 0)), (1, .int p1), (2, .int p2), (3, .ref (ad 109))] [.int r1, .int 0, .ref (ad 109)] m2
  refine h_i2l C dL_logged_8 ?_
  refine h_last C dL_logged_9 (by omega) la_109 h (fun j1 m2 hj1 _ h => ?_)
  refine h_goto C (tgt := 21) dL_logged_10 (by decide) ?_
  refine h_iconst C (v := 0) dL_logged_21 (by decide) ?_
  exact h_iret C dL_logged_22 rfl h
noncomputable def f_L_statistic (p1 : Int32) (m : sM) : Option (sR Int32) :=
  s_try (f_X9_statistic p1 m) (fun r1 m2 => s_ix 0 1 fun j1 => s_md (s_uL m2 109 j1 (Int32.toInt64 r1)) fun m2 => some (.inl 0, m2)) (fun E mx => if E = "java/lang/IllegalArgumentException" then (some (.inl 1, mx)) else none)
set_option maxRecDepth 20000 in
set_option maxHeartbeats 4000000 in
theorem c_L_statistic (p1 : Int32) : s_Con s_i 0 110 yL_statistic wsL_statistic 16 230 1 (f_L_statistic p1) (fun ad => [.ref (ad 0), .int p1, .ref (ad 109)]) := by
  refine s_conH_of cL_statistic 4 (some .int) RL [(0, 9, 12, 21)] (by decide) rfl rfl (fun _ => Nat.le_of_ble_eq_true rfl) (fun ad m res V C h => ?_)
  unfold f_L_statistic at h
  have F_l21 : Cond.classLink RL 21 "java/lang/IllegalArgumentException" ∈ wsL_statistic := by decide +kernel
  show V 1 0 [(0, .ref (ad 0)), (1, .int p1), (2, .ref (ad 109))] [] m
  refine h_aload_n C dL_statistic_0 rfl 2 rfl ?_
  refine h_iconst C (v := 0) dL_statistic_1 (by decide) ?_
  refine h_aload_n C dL_statistic_2 rfl 0 rfl ?_
  refine h_iload_n C dL_statistic_3 rfl 1 rfl ?_
  refine h_callV C (c_X9_statistic 110 (by omega) p1) (As := [.int p1]) (nn := 1) (stk := [.int p1, .ref (ad 0), .int 0, .ref (ad 109)]) (ci := 9) dL_statistic_4 gL_statistic_X9_statistic ⟨rfl, by decide, by decide, by decide +kernel⟩ (by omega) la_0 rfl rfl rfl (by decide) rfl rfl (Nat.le_of_ble_eq_true rfl) (by decide) h (fun E mx h => ?_) (fun r1 m2 h => ?_)
  · skip
    by_cases q0 : E = "java/lang/IllegalArgumentException"
    · have h := s_pos q0 h
      subst q0
      refine ⟨[], ⟨0, 9, 12, 21⟩, [], rfl, (fun z hz => absurd hz List.not_mem_nil), by decide, by decide, F_l21, by decide +kernel, fun q9 => ?_⟩
      show V 0 12 [(0, .ref (ad 0)), (1, .int p1), (2, .ref (ad 109))] [.ref q9] mx
      refine h_astore_n C dL_statistic_12 rfl (by decide) (show _ = [(3, .ref q9), (0, .ref (ad 0)), (1, .int p1), (2, .ref (ad 109))] from rfl) ?_
      refine h_iconst C (v := 1) dL_statistic_13 (by decide) ?_
      exact h_iret C dL_statistic_14 rfl h
    have h := s_neg q0 h
    cases h
  show V 0 7 [(0, .ref (ad 0)), (1, .int p1), (2, .ref (ad 109))] [.int r1, .int 0, .ref (ad 109)] m2
  refine h_i2l C dL_statistic_7 ?_
  refine h_last C dL_statistic_8 (by omega) la_109 h (fun j1 m2 hj1 _ h => ?_)
  refine h_goto C (tgt := 15) dL_statistic_9 (by decide) ?_
  refine h_iconst C (v := 0) dL_statistic_15 (by decide) ?_
  exact h_iret C dL_statistic_16 rfl h
noncomputable def f_L_pin (m : sM) : Option (sR Int32) :=
  s_try (f_X9_pin m) (fun r1 m2 => s_ix 0 1 fun j1 => s_md (s_uL m2 109 j1 (Int32.toInt64 r1)) fun m2 => some (.inl 0, m2)) (fun E mx => if E = "java/lang/IllegalStateException" then (some (.inl 1, mx)) else none)
set_option maxRecDepth 20000 in
set_option maxHeartbeats 4000000 in
theorem c_L_pin : s_Con s_i 0 110 yL_pin wsL_pin 16 230 2 (f_L_pin) (fun ad => [.ref (ad 0), .ref (ad 109)]) := by
  refine s_conH_of cL_pin 3 (some .int) RL [(0, 8, 11, 13)] (by decide) rfl rfl (fun _ => Nat.le_of_ble_eq_true rfl) (fun ad m res V C h => ?_)
  unfold f_L_pin at h
  have F_l13 : Cond.classLink RL 13 "java/lang/IllegalStateException" ∈ wsL_pin := by decide +kernel
  show V 2 0 [(0, .ref (ad 0)), (1, .ref (ad 109))] [] m
  refine h_aload_n C dL_pin_0 rfl 1 rfl ?_
  refine h_iconst C (v := 0) dL_pin_1 (by decide) ?_
  refine h_aload_n C dL_pin_2 rfl 0 rfl ?_
  refine h_callV C (c_X9_pin 110 (by omega)) (As := []) (nn := 0) (stk := [.ref (ad 0), .int 0, .ref (ad 109)]) (ci := 9) dL_pin_3 gL_pin_X9_pin ⟨rfl, by decide, by decide, by decide +kernel⟩ (by omega) la_0 rfl rfl rfl (by decide) rfl rfl (Nat.le_of_ble_eq_true rfl) (by decide) h (fun E mx h => ?_) (fun r1 m2 h => ?_)
  · skip
    by_cases q0 : E = "java/lang/IllegalStateException"
    · have h := s_pos q0 h
      subst q0
      refine ⟨[], ⟨0, 8, 11, 13⟩, [], rfl, (fun z hz => absurd hz List.not_mem_nil), by decide, by decide, F_l13, by decide +kernel, fun q9 => ?_⟩
      show V 0 11 [(0, .ref (ad 0)), (1, .ref (ad 109))] [.ref q9] mx
      refine h_astore_n C dL_pin_11 rfl (by decide) (show _ = [(2, .ref q9), (0, .ref (ad 0)), (1, .ref (ad 109))] from rfl) ?_
      refine h_iconst C (v := 1) dL_pin_12 (by decide) ?_
      exact h_iret C dL_pin_13 rfl h
    have h := s_neg q0 h
    cases h
  show V 0 6 [(0, .ref (ad 0)), (1, .ref (ad 109))] [.int r1, .int 0, .ref (ad 109)] m2
  refine h_i2l C dL_pin_6 ?_
  refine h_last C dL_pin_7 (by omega) la_109 h (fun j1 m2 hj1 _ h => ?_)
  refine h_goto C (tgt := 14) dL_pin_8 (by decide) ?_
  refine h_iconst C (v := 0) dL_pin_14 (by decide) ?_
  exact h_iret C dL_pin_15 rfl h
noncomputable def f_L_pinnedValue (p1 : Int32) (p2 : Int32) (m : sM) : Option (sR Int32) :=
  s_try (f_X9_pinnedValue p1 p2 m) (fun r1 m2 => s_ix 0 1 fun j1 => s_md (s_uL m2 109 j1 (Int32.toInt64 r1)) fun m2 => some (.inl 0, m2)) (fun E mx => if E = "java/lang/IndexOutOfBoundsException" then (some (.inl 1, mx)) else if E = "java/lang/IllegalArgumentException" then (some (.inl 2, mx)) else if E = "java/lang/IllegalStateException" then (some (.inl 3, mx)) else if E = "java/util/NoSuchElementException" then (some (.inl 4, mx)) else none)
set_option maxRecDepth 20000 in
set_option maxHeartbeats 4000000 in
theorem c_L_pinnedValue (p1 : Int32) (p2 : Int32) : s_Con s_i 0 110 yL_pinnedValue wsL_pinnedValue 18 275 4 (f_L_pinnedValue p1 p2) (fun ad => [.ref (ad 0), .int p1, .int p2, .ref (ad 109)]) := by
  refine s_conH_of cL_pinnedValue 5 (some .int) RL [(0, 10, 13, 19), (0, 10, 17, 21), (0, 10, 21, 13), (0, 10, 25, 27)] (by decide) rfl rfl (fun _ => Nat.le_of_ble_eq_true rfl) (fun ad m res V C h => ?_)
  unfold f_L_pinnedValue at h
  have F_l19 : Cond.classLink RL 19 "java/lang/IndexOutOfBoundsException" ∈ wsL_pinnedValue := by decide +kernel
  have F_l21 : Cond.classLink RL 21 "java/lang/IllegalArgumentException" ∈ wsL_pinnedValue := by decide +kernel
  have F_l13 : Cond.classLink RL 13 "java/lang/IllegalStateException" ∈ wsL_pinnedValue := by decide +kernel
  have F_l27 : Cond.classLink RL 27 "java/util/NoSuchElementException" ∈ wsL_pinnedValue := by decide +kernel
  show V 4 0 [(0, .ref (ad 0)), (1, .int p1), (2, .int p2), (3, .ref (ad 109))] [] m
  refine h_aload_n C dL_pinnedValue_0 rfl 3 rfl ?_
  refine h_iconst C (v := 0) dL_pinnedValue_1 (by decide) ?_
  refine h_aload_n C dL_pinnedValue_2 rfl 0 rfl ?_
  refine h_iload_n C dL_pinnedValue_3 rfl 1 rfl ?_
  refine h_iload_n C dL_pinnedValue_4 rfl 2 rfl ?_
  refine h_callV C (c_X9_pinnedValue 110 (by omega) p1 p2) (As := [.int p1, .int p2]) (nn := 2) (stk := [.int p2, .int p1, .ref (ad 0), .int 0, .ref (ad 109)]) (ci := 9) dL_pinnedValue_5 gL_pinnedValue_X9_pinnedValue ⟨rfl, by decide, by decide, by decide +kernel⟩ (by omega) la_0 rfl rfl rfl (by decide) rfl rfl (Nat.le_of_ble_eq_true rfl) (by decide) h (fun E mx h => ?_) (fun r1 m2 h => ?_)
  · skip
    by_cases q0 : E = "java/lang/IndexOutOfBoundsException"
    · have h := s_pos q0 h
      subst q0
      refine ⟨[], ⟨0, 10, 13, 19⟩, [⟨0, 10, 17, 21⟩, ⟨0, 10, 21, 13⟩, ⟨0, 10, 25, 27⟩], rfl, (fun z hz => absurd hz List.not_mem_nil), by decide, by decide, F_l19, by decide +kernel, fun q9 => ?_⟩
      show V 0 13 [(0, .ref (ad 0)), (1, .int p1), (2, .int p2), (3, .ref (ad 109))] [.ref q9] mx
      refine h_astore C dL_pinnedValue_13 (by decide) (show _ = [(4, .ref q9), (0, .ref (ad 0)), (1, .int p1), (2, .int p2), (3, .ref (ad 109))] from rfl) ?_
      refine h_iconst C (v := 1) dL_pinnedValue_15 (by decide) ?_
      exact h_iret C dL_pinnedValue_16 rfl h
    have h := s_neg q0 h
    by_cases q1 : E = "java/lang/IllegalArgumentException"
    · have h := s_pos q1 h
      subst q1
      refine ⟨[⟨0, 10, 13, 19⟩], ⟨0, 10, 17, 21⟩, [⟨0, 10, 21, 13⟩, ⟨0, 10, 25, 27⟩], rfl, List.forall_mem_cons.mpr ⟨⟨by decide, "java/lang/IndexOutOfBoundsException", F_l19, by decide +kernel, by decide⟩, fun z hz => absurd hz List.not_mem_nil⟩, by decide, by decide, F_l21, by decide +kernel, fun q9 => ?_⟩
      show V 0 17 [(0, .ref (ad 0)), (1, .int p1), (2, .int p2), (3, .ref (ad 109))] [.ref q9] mx
      refine h_astore C dL_pinnedValue_17 (by decide) (show _ = [(4, .ref q9), (0, .ref (ad 0)), (1, .int p1), (2, .int p2), (3, .ref (ad 109))] from rfl) ?_
      refine h_iconst C (v := 2) dL_pinnedValue_19 (by decide) ?_
      exact h_iret C dL_pinnedValue_20 rfl h
    have h := s_neg q1 h
    by_cases q2 : E = "java/lang/IllegalStateException"
    · have h := s_pos q2 h
      subst q2
      refine ⟨[⟨0, 10, 13, 19⟩, ⟨0, 10, 17, 21⟩], ⟨0, 10, 21, 13⟩, [⟨0, 10, 25, 27⟩], rfl, List.forall_mem_cons.mpr ⟨⟨by decide, "java/lang/IndexOutOfBoundsException", F_l19, by decide +kernel, by decide⟩, List.forall_mem_cons.mpr ⟨⟨by decide, "java/lang/IllegalArgumentException", F_l21, by decide +kernel, by decide⟩, fun z hz => absurd hz List.not_mem_nil⟩⟩, by decide, by decide, F_l13, by decide +kernel, fun q9 => ?_⟩
      show V 0 21 [(0, .ref (ad 0)), (1, .int p1), (2, .int p2), (3, .ref (ad 109))] [.ref q9] mx
      refine h_astore C dL_pinnedValue_21 (by decide) (show _ = [(4, .ref q9), (0, .ref (ad 0)), (1, .int p1), (2, .int p2), (3, .ref (ad 109))] from rfl) ?_
      refine h_iconst C (v := 3) dL_pinnedValue_23 (by decide) ?_
      exact h_iret C dL_pinnedValue_24 rfl h
    have h := s_neg q2 h
    by_cases q3 : E = "java/util/NoSuchElementException"
    · have h := s_pos q3 h
      subst q3
      refine ⟨[⟨0, 10, 13, 19⟩, ⟨0, 10, 17, 21⟩, ⟨0, 10, 21, 13⟩], ⟨0, 10, 25, 27⟩, [], rfl, List.forall_mem_cons.mpr ⟨⟨by decide, "java/lang/IndexOutOfBoundsException", F_l19, by decide +kernel, by decide⟩, List.forall_mem_cons.mpr ⟨⟨by decide, "java/lang/IllegalArgumentException", F_l21, by decide +kernel, by decide⟩, List.forall_mem_cons.mpr ⟨⟨by decide, "java/lang/IllegalStateException", F_l13, by decide +kernel, by decide⟩, fun z hz => absurd hz List.not_mem_nil⟩⟩⟩, by decide, by decide, F_l27, by decide +kernel, fun q9 => ?_⟩
      show V 0 25 [(0, .ref (ad 0)), (1, .int p1), (2, .int p2), (3, .ref (ad 109))] [.ref q9] mx
      refine h_astore C dL_pinnedValue_25 (by decide) (show _ = [(4, .ref q9), (0, .ref (ad 0)), (1, .int p1), (2, .int p2), (3, .ref (ad 109))] from rfl) ?_
      refine h_iconst C (v := 4) dL_pinnedValue_27 (by decide) ?_
      exact h_iret C dL_pinnedValue_28 rfl h
    have h := s_neg q3 h
    cases h
  show V 0 8 [(0, .ref (ad 0)), (1, .int p1), (2, .int p2), (3, .ref (ad 109))] [.int r1, .int 0, .ref (ad 109)] m2
  refine h_i2l C dL_pinnedValue_8 ?_
  refine h_last C dL_pinnedValue_9 (by omega) la_109 h (fun j1 m2 hj1 _ h => ?_)
  refine h_goto C (tgt := 29) dL_pinnedValue_10 (by decide) ?_
  refine h_iconst C (v := 0) dL_pinnedValue_29 (by decide) ?_
  exact h_iret C dL_pinnedValue_30 rfl h
noncomputable def f_L_pinnedCommit (p1 : Int32) (m : sM) : Option (sR Int32) :=
  s_try (f_X9_pinnedCommit p1 m) (fun r1 m2 => s_ix 0 1 fun j1 => s_md (s_uL m2 109 j1 (Int32.toInt64 r1)) fun m2 => some (.inl 0, m2)) (fun E mx => if E = "java/lang/IndexOutOfBoundsException" then (some (.inl 1, mx)) else if E = "java/lang/IllegalStateException" then (some (.inl 2, mx)) else none)
set_option maxRecDepth 20000 in
set_option maxHeartbeats 4000000 in
theorem c_L_pinnedCommit (p1 : Int32) : s_Con s_i 0 110 yL_pinnedCommit wsL_pinnedCommit 16 230 2 (f_L_pinnedCommit p1) (fun ad => [.ref (ad 0), .int p1, .ref (ad 109)]) := by
  refine s_conH_of cL_pinnedCommit 4 (some .int) RL [(0, 9, 12, 19), (0, 9, 15, 13)] (by decide) rfl rfl (fun _ => Nat.le_of_ble_eq_true rfl) (fun ad m res V C h => ?_)
  unfold f_L_pinnedCommit at h
  have F_l19 : Cond.classLink RL 19 "java/lang/IndexOutOfBoundsException" ∈ wsL_pinnedCommit := by decide +kernel
  have F_l13 : Cond.classLink RL 13 "java/lang/IllegalStateException" ∈ wsL_pinnedCommit := by decide +kernel
  show V 2 0 [(0, .ref (ad 0)), (1, .int p1), (2, .ref (ad 109))] [] m
  refine h_aload_n C dL_pinnedCommit_0 rfl 2 rfl ?_
  refine h_iconst C (v := 0) dL_pinnedCommit_1 (by decide) ?_
  refine h_aload_n C dL_pinnedCommit_2 rfl 0 rfl ?_
  refine h_iload_n C dL_pinnedCommit_3 rfl 1 rfl ?_
  refine h_callV C (c_X9_pinnedCommit 110 (by omega) p1) (As := [.int p1]) (nn := 1) (stk := [.int p1, .ref (ad 0), .int 0, .ref (ad 109)]) (ci := 9) dL_pinnedCommit_4 gL_pinnedCommit_X9_pinnedCommit ⟨rfl, by decide, by decide, by decide +kernel⟩ (by omega) la_0 rfl rfl rfl (by decide) rfl rfl (Nat.le_of_ble_eq_true rfl) (by decide) h (fun E mx h => ?_) (fun r1 m2 h => ?_)
  · skip
    by_cases q0 : E = "java/lang/IndexOutOfBoundsException"
    · have h := s_pos q0 h
      subst q0
      refine ⟨[], ⟨0, 9, 12, 19⟩, [⟨0, 9, 15, 13⟩], rfl, (fun z hz => absurd hz List.not_mem_nil), by decide, by decide, F_l19, by decide +kernel, fun q9 => ?_⟩
      show V 0 12 [(0, .ref (ad 0)), (1, .int p1), (2, .ref (ad 109))] [.ref q9] mx
      refine h_astore_n C dL_pinnedCommit_12 rfl (by decide) (show _ = [(3, .ref q9), (0, .ref (ad 0)), (1, .int p1), (2, .ref (ad 109))] from rfl) ?_
      refine h_iconst C (v := 1) dL_pinnedCommit_13 (by decide) ?_
      exact h_iret C dL_pinnedCommit_14 rfl h
    have h := s_neg q0 h
    by_cases q1 : E = "java/lang/IllegalStateException"
    · have h := s_pos q1 h
      subst q1
      refine ⟨[⟨0, 9, 12, 19⟩], ⟨0, 9, 15, 13⟩, [], rfl, List.forall_mem_cons.mpr ⟨⟨by decide, "java/lang/IndexOutOfBoundsException", F_l19, by decide +kernel, by decide⟩, fun z hz => absurd hz List.not_mem_nil⟩, by decide, by decide, F_l13, by decide +kernel, fun q9 => ?_⟩
      show V 0 15 [(0, .ref (ad 0)), (1, .int p1), (2, .ref (ad 109))] [.ref q9] mx
      refine h_astore_n C dL_pinnedCommit_15 rfl (by decide) (show _ = [(3, .ref q9), (0, .ref (ad 0)), (1, .int p1), (2, .ref (ad 109))] from rfl) ?_
      refine h_iconst C (v := 2) dL_pinnedCommit_16 (by decide) ?_
      exact h_iret C dL_pinnedCommit_17 rfl h
    have h := s_neg q1 h
    cases h
  show V 0 7 [(0, .ref (ad 0)), (1, .int p1), (2, .ref (ad 109))] [.int r1, .int 0, .ref (ad 109)] m2
  refine h_i2l C dL_pinnedCommit_7 ?_
  refine h_last C dL_pinnedCommit_8 (by omega) la_109 h (fun j1 m2 hj1 _ h => ?_)
  refine h_goto C (tgt := 18) dL_pinnedCommit_9 (by decide) ?_
  refine h_iconst C (v := 0) dL_pinnedCommit_18 (by decide) ?_
  exact h_iret C dL_pinnedCommit_19 rfl h
noncomputable def f_L_unpin (p1 : Int32) (m : sM) : Option (sR Int32) :=
  s_try (f_X9_unpin p1 m) (fun r1 m2 => s_ix 0 1 fun j1 => s_md (s_uL m2 109 j1 (Int32.toInt64 r1)) fun m2 => some (.inl 0, m2)) (fun E mx => if E = "java/lang/IndexOutOfBoundsException" then (some (.inl 1, mx)) else if E = "java/lang/IllegalStateException" then (some (.inl 2, mx)) else none)
set_option maxRecDepth 20000 in
set_option maxHeartbeats 4000000 in
theorem c_L_unpin (p1 : Int32) : s_Con s_i 0 110 yL_unpin wsL_unpin 20 320 2 (f_L_unpin p1) (fun ad => [.ref (ad 0), .int p1, .ref (ad 109)]) := by
  refine s_conH_of cL_unpin 4 (some .int) RL [(0, 9, 12, 19), (0, 9, 15, 13)] (by decide) rfl rfl (fun _ => Nat.le_of_ble_eq_true rfl) (fun ad m res V C h => ?_)
  unfold f_L_unpin at h
  have F_l19 : Cond.classLink RL 19 "java/lang/IndexOutOfBoundsException" ∈ wsL_unpin := by decide +kernel
  have F_l13 : Cond.classLink RL 13 "java/lang/IllegalStateException" ∈ wsL_unpin := by decide +kernel
  show V 2 0 [(0, .ref (ad 0)), (1, .int p1), (2, .ref (ad 109))] [] m
  refine h_aload_n C dL_unpin_0 rfl 2 rfl ?_
  refine h_iconst C (v := 0) dL_unpin_1 (by decide) ?_
  refine h_aload_n C dL_unpin_2 rfl 0 rfl ?_
  refine h_iload_n C dL_unpin_3 rfl 1 rfl ?_
  refine h_callV C (c_X9_unpin 110 (by omega) p1) (As := [.int p1]) (nn := 1) (stk := [.int p1, .ref (ad 0), .int 0, .ref (ad 109)]) (ci := 9) dL_unpin_4 gL_unpin_X9_unpin ⟨rfl, by decide, by decide, by decide +kernel⟩ (by omega) la_0 rfl rfl rfl (by decide) rfl rfl (Nat.le_of_ble_eq_true rfl) (by decide) h (fun E mx h => ?_) (fun r1 m2 h => ?_)
  · skip
    by_cases q0 : E = "java/lang/IndexOutOfBoundsException"
    · have h := s_pos q0 h
      subst q0
      refine ⟨[], ⟨0, 9, 12, 19⟩, [⟨0, 9, 15, 13⟩], rfl, (fun z hz => absurd hz List.not_mem_nil), by decide, by decide, F_l19, by decide +kernel, fun q9 => ?_⟩
      show V 0 12 [(0, .ref (ad 0)), (1, .int p1), (2, .ref (ad 109))] [.ref q9] mx
      refine h_astore_n C dL_unpin_12 rfl (by decide) (show _ = [(3, .ref q9), (0, .ref (ad 0)), (1, .int p1), (2, .ref (ad 109))] from rfl) ?_
      refine h_iconst C (v := 1) dL_unpin_13 (by decide) ?_
      exact h_iret C dL_unpin_14 rfl h
    have h := s_neg q0 h
    by_cases q1 : E = "java/lang/IllegalStateException"
    · have h := s_pos q1 h
      subst q1
      refine ⟨[⟨0, 9, 12, 19⟩], ⟨0, 9, 15, 13⟩, [], rfl, List.forall_mem_cons.mpr ⟨⟨by decide, "java/lang/IndexOutOfBoundsException", F_l19, by decide +kernel, by decide⟩, fun z hz => absurd hz List.not_mem_nil⟩, by decide, by decide, F_l13, by decide +kernel, fun q9 => ?_⟩
      show V 0 15 [(0, .ref (ad 0)), (1, .int p1), (2, .ref (ad 109))] [.ref q9] mx
      refine h_astore_n C dL_unpin_15 rfl (by decide) (show _ = [(3, .ref q9), (0, .ref (ad 0)), (1, .int p1), (2, .ref (ad 109))] from rfl) ?_
      refine h_iconst C (v := 2) dL_unpin_16 (by decide) ?_
      exact h_iret C dL_unpin_17 rfl h
    have h := s_neg q1 h
    cases h
  show V 0 7 [(0, .ref (ad 0)), (1, .int p1), (2, .ref (ad 109))] [.int r1, .int 0, .ref (ad 109)] m2
  refine h_i2l C dL_unpin_7 ?_
  refine h_last C dL_unpin_8 (by omega) la_109 h (fun j1 m2 hj1 _ h => ?_)
  refine h_goto C (tgt := 18) dL_unpin_9 (by decide) ?_
  refine h_iconst C (v := 0) dL_unpin_18 (by decide) ?_
  exact h_iret C dL_unpin_19 rfl h
noncomputable def f_L_differences (p1 : Int32) (m : sM) : Option (sR Int32) :=
  s_try (f_X9_differences p1 m) (fun r1 m2 => s_ix 0 1 fun j1 => s_md (s_uL m2 109 j1 (Int32.toInt64 r1)) fun m2 => some (.inl 0, m2)) (fun E mx => if E = "java/lang/IndexOutOfBoundsException" then (some (.inl 1, mx)) else if E = "java/lang/IllegalStateException" then (some (.inl 2, mx)) else none)
set_option maxRecDepth 20000 in
set_option maxHeartbeats 4000000 in
theorem c_L_differences (p1 : Int32) : s_Con s_i 0 110 yL_differences wsL_differences 18 275 2 (f_L_differences p1) (fun ad => [.ref (ad 0), .int p1, .ref (ad 109)]) := by
  refine s_conH_of cL_differences 4 (some .int) RL [(0, 9, 12, 19), (0, 9, 15, 13)] (by decide) rfl rfl (fun _ => Nat.le_of_ble_eq_true rfl) (fun ad m res V C h => ?_)
  unfold f_L_differences at h
  have F_l19 : Cond.classLink RL 19 "java/lang/IndexOutOfBoundsException" ∈ wsL_differences := by decide +kernel
  have F_l13 : Cond.classLink RL 13 "java/lang/IllegalStateException" ∈ wsL_differences := by decide +kernel
  show V 2 0 [(0, .ref (ad 0)), (1, .int p1), (2, .ref (ad 109))] [] m
  refine h_aload_n C dL_differences_0 rfl 2 rfl ?_
  refine h_iconst C (v := 0) dL_differences_1 (by decide) ?_
  refine h_aload_n C dL_differences_2 rfl 0 rfl ?_
  refine h_iload_n C dL_differences_3 rfl 1 rfl ?_
  refine h_callV C (c_X9_differences 110 (by omega) p1) (As := [.int p1]) (nn := 1) (stk := [.int p1, .ref (ad 0), .int 0, .ref (ad 109)]) (ci := 9) dL_differences_4 gL_differences_X9_differences ⟨rfl, by decide, by decide, by decide +kernel⟩ (by omega) la_0 rfl rfl rfl (by decide) rfl rfl (Nat.le_of_ble_eq_true rfl) (by decide) h (fun E mx h => ?_) (fun r1 m2 h => ?_)
  · skip
    by_cases q0 : E = "java/lang/IndexOutOfBoundsException"
    · have h := s_pos q0 h
      subst q0
      refine ⟨[], ⟨0, 9, 12, 19⟩, [⟨0, 9, 15, 13⟩], rfl, (fun z hz => absurd hz List.not_mem_nil), by decide, by decide, F_l19, by decide +kernel, fun q9 => ?_⟩
      show V 0 12 [(0, .ref (ad 0)), (1, .int p1), (2, .ref (ad 109))] [.ref q9] mx
      refine h_astore_n C dL_differences_12 rfl (by decide) (show _ = [(3, .ref q9), (0, .ref (ad 0)), (1, .int p1), (2, .ref (ad 109))] from rfl) ?_
      refine h_iconst C (v := 1) dL_differences_13 (by decide) ?_
      exact h_iret C dL_differences_14 rfl h
    have h := s_neg q0 h
    by_cases q1 : E = "java/lang/IllegalStateException"
    · have h := s_pos q1 h
      subst q1
      refine ⟨[⟨0, 9, 12, 19⟩], ⟨0, 9, 15, 13⟩, [], rfl, List.forall_mem_cons.mpr ⟨⟨by decide, "java/lang/IndexOutOfBoundsException", F_l19, by decide +kernel, by decide⟩, fun z hz => absurd hz List.not_mem_nil⟩, by decide, by decide, F_l13, by decide +kernel, fun q9 => ?_⟩
      show V 0 15 [(0, .ref (ad 0)), (1, .int p1), (2, .ref (ad 109))] [.ref q9] mx
      refine h_astore_n C dL_differences_15 rfl (by decide) (show _ = [(3, .ref q9), (0, .ref (ad 0)), (1, .int p1), (2, .ref (ad 109))] from rfl) ?_
      refine h_iconst C (v := 2) dL_differences_16 (by decide) ?_
      exact h_iret C dL_differences_17 rfl h
    have h := s_neg q1 h
    cases h
  show V 0 7 [(0, .ref (ad 0)), (1, .int p1), (2, .ref (ad 109))] [.int r1, .int 0, .ref (ad 109)] m2
  refine h_i2l C dL_differences_7 ?_
  refine h_last C dL_differences_8 (by omega) la_109 h (fun j1 m2 hj1 _ h => ?_)
  refine h_goto C (tgt := 18) dL_differences_9 (by decide) ?_
  refine h_iconst C (v := 0) dL_differences_18 (by decide) ?_
  exact h_iret C dL_differences_19 rfl h
noncomputable def f_L_differentKey (p1 : Int32) (p2 : Int32) (m : sM) : Option (sR Int32) :=
  s_try (f_X9_differentKey p1 p2 m) (fun r1 m2 => s_ix 0 1 fun j1 => s_md (s_uL m2 109 j1 (Int32.toInt64 r1)) fun m2 => some (.inl 0, m2)) (fun E mx => if E = "java/lang/IndexOutOfBoundsException" then (some (.inl 1, mx)) else if E = "java/lang/IllegalStateException" then (some (.inl 2, mx)) else if E = "java/util/NoSuchElementException" then (some (.inl 3, mx)) else none)
set_option maxRecDepth 20000 in
set_option maxHeartbeats 4000000 in
theorem c_L_differentKey (p1 : Int32) (p2 : Int32) : s_Con s_i 0 110 yL_differentKey wsL_differentKey 18 275 3 (f_L_differentKey p1 p2) (fun ad => [.ref (ad 0), .int p1, .int p2, .ref (ad 109)]) := by
  refine s_conH_of cL_differentKey 5 (some .int) RL [(0, 10, 13, 19), (0, 10, 17, 13), (0, 10, 21, 27)] (by decide) rfl rfl (fun _ => Nat.le_of_ble_eq_true rfl) (fun ad m res V C h => ?_)
  unfold f_L_differentKey at h
  have F_l19 : Cond.classLink RL 19 "java/lang/IndexOutOfBoundsException" ∈ wsL_differentKey := by decide +kernel
  have F_l13 : Cond.classLink RL 13 "java/lang/IllegalStateException" ∈ wsL_differentKey := by decide +kernel
  have F_l27 : Cond.classLink RL 27 "java/util/NoSuchElementException" ∈ wsL_differentKey := by decide +kernel
  show V 3 0 [(0, .ref (ad 0)), (1, .int p1), (2, .int p2), (3, .ref (ad 109))] [] m
  refine h_aload_n C dL_differentKey_0 rfl 3 rfl ?_
  refine h_iconst C (v := 0) dL_differentKey_1 (by decide) ?_
  refine h_aload_n C dL_differentKey_2 rfl 0 rfl ?_
  refine h_iload_n C dL_differentKey_3 rfl 1 rfl ?_
  refine h_iload_n C dL_differentKey_4 rfl 2 rfl ?_
  refine h_callV C (c_X9_differentKey 110 (by omega) p1 p2) (As := [.int p1, .int p2]) (nn := 2) (stk := [.int p2, .int p1, .ref (ad 0), .int 0, .ref (ad 109)]) (ci := 9) dL_differentKey_5 gL_differentKey_X9_differentKey ⟨rfl, by decide, by decide, by decide +kernel⟩ (by omega) la_0 rfl rfl rfl (by decide) rfl rfl (Nat.le_of_ble_eq_true rfl) (by decide) h (fun E mx h => ?_) (fun r1 m2 h => ?_)
  · skip
    by_cases q0 : E = "java/lang/IndexOutOfBoundsException"
    · have h := s_pos q0 h
      subst q0
      refine ⟨[], ⟨0, 10, 13, 19⟩, [⟨0, 10, 17, 13⟩, ⟨0, 10, 21, 27⟩], rfl, (fun z hz => absurd hz List.not_mem_nil), by decide, by decide, F_l19, by decide +kernel, fun q9 => ?_⟩
      show V 0 13 [(0, .ref (ad 0)), (1, .int p1), (2, .int p2), (3, .ref (ad 109))] [.ref q9] mx
      refine h_astore C dL_differentKey_13 (by decide) (show _ = [(4, .ref q9), (0, .ref (ad 0)), (1, .int p1), (2, .int p2), (3, .ref (ad 109))] from rfl) ?_
      refine h_iconst C (v := 1) dL_differentKey_15 (by decide) ?_
      exact h_iret C dL_differentKey_16 rfl h
    have h := s_neg q0 h
    by_cases q1 : E = "java/lang/IllegalStateException"
    · have h := s_pos q1 h
      subst q1
      refine ⟨[⟨0, 10, 13, 19⟩], ⟨0, 10, 17, 13⟩, [⟨0, 10, 21, 27⟩], rfl, List.forall_mem_cons.mpr ⟨⟨by decide, "java/lang/IndexOutOfBoundsException", F_l19, by decide +kernel, by decide⟩, fun z hz => absurd hz List.not_mem_nil⟩, by decide, by decide, F_l13, by decide +kernel, fun q9 => ?_⟩
      show V 0 17 [(0, .ref (ad 0)), (1, .int p1), (2, .int p2), (3, .ref (ad 109))] [.ref q9] mx
      refine h_astore C dL_differentKey_17 (by decide) (show _ = [(4, .ref q9), (0, .ref (ad 0)), (1, .int p1), (2, .int p2), (3, .ref (ad 109))] from rfl) ?_
      refine h_iconst C (v := 2) dL_differentKey_19 (by decide) ?_
      exact h_iret C dL_differentKey_20 rfl h
    have h := s_neg q1 h
    by_cases q2 : E = "java/util/NoSuchElementException"
    · have h := s_pos q2 h
      subst q2
      refine ⟨[⟨0, 10, 13, 19⟩, ⟨0, 10, 17, 13⟩], ⟨0, 10, 21, 27⟩, [], rfl, List.forall_mem_cons.mpr ⟨⟨by decide, "java/lang/IndexOutOfBoundsException", F_l19, by decide +kernel, by decide⟩, List.forall_mem_cons.mpr ⟨⟨by decide, "java/lang/IllegalStateException", F_l13, by decide +kernel, by decide⟩, fun z hz => absurd hz List.not_mem_nil⟩⟩, by decide, by decide, F_l27, by decide +kernel, fun q9 => ?_⟩
      show V 0 21 [(0, .ref (ad 0)), (1, .int p1), (2, .int p2), (3, .ref (ad 109))] [.ref q9] mx
      refine h_astore C dL_differentKey_21 (by decide) (show _ = [(4, .ref q9), (0, .ref (ad 0)), (1, .int p1), (2, .int p2), (3, .ref (ad 109))] from rfl) ?_
      refine h_iconst C (v := 3) dL_differentKey_23 (by decide) ?_
      exact h_iret C dL_differentKey_24 rfl h
    have h := s_neg q2 h
    cases h
  show V 0 8 [(0, .ref (ad 0)), (1, .int p1), (2, .int p2), (3, .ref (ad 109))] [.int r1, .int 0, .ref (ad 109)] m2
  refine h_i2l C dL_differentKey_8 ?_
  refine h_last C dL_differentKey_9 (by omega) la_109 h (fun j1 m2 hj1 _ h => ?_)
  refine h_goto C (tgt := 25) dL_differentKey_10 (by decide) ?_
  refine h_iconst C (v := 0) dL_differentKey_25 (by decide) ?_
  exact h_iret C dL_differentKey_26 rfl h
noncomputable def f_L_cell (p1 : Int32) (p2 : Int32) (m : sM) : Option (sR Int32) :=
  s_try (f_X9_cell p1 p2 m) (fun r1 m2 => s_ix 0 1 fun j1 => s_md (s_uL m2 109 j1 (Int32.toInt64 r1)) fun m2 => some (.inl 0, m2)) (fun E mx => if E = "java/lang/IndexOutOfBoundsException" then (some (.inl 1, mx)) else none)
set_option maxRecDepth 20000 in
set_option maxHeartbeats 4000000 in
theorem c_L_cell (p1 : Int32) (p2 : Int32) : s_Con s_i 0 110 yL_cell wsL_cell 16 230 2 (f_L_cell p1 p2) (fun ad => [.ref (ad 0), .int p1, .int p2, .ref (ad 109)]) := by
  refine s_conH_of cL_cell 5 (some .int) RL [(0, 10, 13, 19)] (by decide) rfl rfl (fun _ => Nat.le_of_ble_eq_true rfl) (fun ad m res V C h => ?_)
  unfold f_L_cell at h
  have F_l19 : Cond.classLink RL 19 "java/lang/IndexOutOfBoundsException" ∈ wsL_cell := by decide +kernel
  show V 2 0 [(0, .ref (ad 0)), (1, .int p1), (2, .int p2), (3, .ref (ad 109))] [] m
  refine h_aload_n C dL_cell_0 rfl 3 rfl ?_
  refine h_iconst C (v := 0) dL_cell_1 (by decide) ?_
  refine h_aload_n C dL_cell_2 rfl 0 rfl ?_
  refine h_iload_n C dL_cell_3 rfl 1 rfl ?_
  refine h_iload_n C dL_cell_4 rfl 2 rfl ?_
  refine h_callV C (c_X9_cell 110 (by omega) p1 p2) (As := [.int p1, .int p2]) (nn := 2) (stk := [.int p2, .int p1, .ref (ad 0), .int 0, .ref (ad 109)]) (ci := 9) dL_cell_5 gL_cell_X9_cell ⟨rfl, by decide, by decide, by decide +kernel⟩ (by omega) la_0 rfl rfl rfl (by decide) rfl rfl (Nat.le_of_ble_eq_true rfl) (by decide) h (fun E mx h => ?_) (fun r1 m2 h => ?_)
  · skip
    by_cases q0 : E = "java/lang/IndexOutOfBoundsException"
    · have h := s_pos q0 h
      subst q0
      refine ⟨[], ⟨0, 10, 13, 19⟩, [], rfl, (fun z hz => absurd hz List.not_mem_nil), by decide, by decide, F_l19, by decide +kernel, fun q9 => ?_⟩
      show V 0 13 [(0, .ref (ad 0)), (1, .int p1), (2, .int p2), (3, .ref (ad 109))] [.ref q9] mx
      refine h_astore C dL_cell_13 (by decide) (show _ = [(4, .ref q9), (0, .ref (ad 0)), (1, .int p1), (2, .int p2), (3, .ref (ad 109))] from rfl) ?_
      refine h_iconst C (v := 1) dL_cell_15 (by decide) ?_
      exact h_iret C dL_cell_16 rfl h
    have h := s_neg q0 h
    cases h
  show V 0 8 [(0, .ref (ad 0)), (1, .int p1), (2, .int p2), (3, .ref (ad 109))] [.int r1, .int 0, .ref (ad 109)] m2
  refine h_i2l C dL_cell_8 ?_
  refine h_last C dL_cell_9 (by omega) la_109 h (fun j1 m2 hj1 _ h => ?_)
  refine h_goto C (tgt := 17) dL_cell_10 (by decide) ?_
  refine h_iconst C (v := 0) dL_cell_17 (by decide) ?_
  exact h_iret C dL_cell_18 rfl h
noncomputable def f_L_damage (p1 : Int32) (p2 : Int32) (p3 : Int32) (m : sM) : Option (sR Int32) :=
  s_try (f_X9_damage p1 p2 p3 m) (fun r1 m2 => s_ix 0 1 fun j1 => s_md (s_uL m2 109 j1 (Int32.toInt64 r1)) fun m2 => some (.inl 0, m2)) (fun E mx => if E = "java/lang/IndexOutOfBoundsException" then (some (.inl 1, mx)) else none)
set_option maxRecDepth 20000 in
set_option maxHeartbeats 4000000 in
theorem c_L_damage (p1 : Int32) (p2 : Int32) (p3 : Int32) : s_Con s_i 0 110 yL_damage wsL_damage 16 230 2 (f_L_damage p1 p2 p3) (fun ad => [.ref (ad 0), .int p1, .int p2, .int p3, .ref (ad 109)]) := by
  refine s_conH_of cL_damage 6 (some .int) RL [(0, 12, 15, 19)] (by decide) rfl rfl (fun _ => Nat.le_of_ble_eq_true rfl) (fun ad m res V C h => ?_)
  unfold f_L_damage at h
  have F_l19 : Cond.classLink RL 19 "java/lang/IndexOutOfBoundsException" ∈ wsL_damage := by decide +kernel
  show V 2 0 [(0, .ref (ad 0)), (1, .int p1), (2, .int p2), (3, .int p3), (4, .ref (ad 109))] [] m
  refine h_aload C dL_damage_0 4 rfl ?_
  refine h_iconst C (v := 0) dL_damage_2 (by decide) ?_
  refine h_aload_n C dL_damage_3 rfl 0 rfl ?_
  refine h_iload_n C dL_damage_4 rfl 1 rfl ?_
  refine h_iload_n C dL_damage_5 rfl 2 rfl ?_
  refine h_iload_n C dL_damage_6 rfl 3 rfl ?_
  refine h_callV C (c_X9_damage 110 (by omega) p1 p2 p3) (As := [.int p1, .int p2, .int p3]) (nn := 3) (stk := [.int p3, .int p2, .int p1, .ref (ad 0), .int 0, .ref (ad 109)]) (ci := 9) dL_damage_7 gL_damage_X9_damage ⟨rfl, by decide, by decide, by decide +kernel⟩ (by omega) la_0 rfl rfl rfl (by decide) rfl rfl (Nat.le_of_ble_eq_true rfl) (by decide) h (fun E mx h => ?_) (fun r1 m2 h => ?_)
  · skip
    by_cases q0 : E = "java/lang/IndexOutOfBoundsException"
    · have h := s_pos q0 h
      subst q0
      refine ⟨[], ⟨0, 12, 15, 19⟩, [], rfl, (fun z hz => absurd hz List.not_mem_nil), by decide, by decide, F_l19, by decide +kernel, fun q9 => ?_⟩
      show V 0 15 [(0, .ref (ad 0)), (1, .int p1), (2, .int p2), (3, .int p3), (4, .ref (ad 109))] [.ref q9] mx
      refine h_astore C dL_damage_15 (by decide) (show _ = [(5, .ref q9), (0, .ref (ad 0)), (1, .int p1), (2, .int p2), (3, .int p3), (4, .ref (ad 109))] from rfl) ?_
      refine h_iconst C (v := 1) dL_damage_17 (by decide) ?_
      exact h_iret C dL_damage_18 rfl h
    have h := s_neg q0 h
    cases h
  show V 0 10 [(0, .ref (ad 0)), (1, .int p1), (2, .int p2), (3, .int p3), (4, .ref (ad 109))] [.int r1, .int 0, .ref (ad 109)] m2
  refine h_i2l C dL_damage_10 ?_
  refine h_last C dL_damage_11 (by omega) la_109 h (fun j1 m2 hj1 _ h => ?_)
  refine h_goto C (tgt := 19) dL_damage_12 (by decide) ?_
  refine h_iconst C (v := 0) dL_damage_19 (by decide) ?_
  exact h_iret C dL_damage_20 rfl h
noncomputable def f_L_checksum (p1 : Int32) (m : sM) : Option (sR Int32) :=
  s_try (f_X9_checksum p1 m) (fun r1 m2 => s_ix 0 1 fun j1 => s_md (s_uL m2 109 j1 (Int32.toInt64 r1)) fun m2 => some (.inl 0, m2)) (fun E mx => if E = "java/lang/IndexOutOfBoundsException" then (some (.inl 1, mx)) else none)
set_option maxRecDepth 20000 in
set_option maxHeartbeats 4000000 in
theorem c_L_checksum (p1 : Int32) : s_Con s_i 0 110 yL_checksum wsL_checksum 16 230 1 (f_L_checksum p1) (fun ad => [.ref (ad 0), .int p1, .ref (ad 109)]) := by
  refine s_conH_of cL_checksum 4 (some .int) RL [(0, 9, 12, 19)] (by decide) rfl rfl (fun _ => Nat.le_of_ble_eq_true rfl) (fun ad m res V C h => ?_)
  unfold f_L_checksum at h
  have F_l19 : Cond.classLink RL 19 "java/lang/IndexOutOfBoundsException" ∈ wsL_checksum := by decide +kernel
  show V 1 0 [(0, .ref (ad 0)), (1, .int p1), (2, .ref (ad 109))] [] m
  refine h_aload_n C dL_checksum_0 rfl 2 rfl ?_
  refine h_iconst C (v := 0) dL_checksum_1 (by decide) ?_
  refine h_aload_n C dL_checksum_2 rfl 0 rfl ?_
  refine h_iload_n C dL_checksum_3 rfl 1 rfl ?_
  refine h_callV C (c_X9_checksum 110 (by omega) p1) (As := [.int p1]) (nn := 1) (stk := [.int p1, .ref (ad 0), .int 0, .ref (ad 109)]) (ci := 9) dL_checksum_4 gL_checksum_X9_checksum ⟨rfl, by decide, by decide, by decide +kernel⟩ (by omega) la_0 rfl rfl rfl (by decide) rfl rfl (Nat.le_of_ble_eq_true rfl) (by decide) h (fun E mx h => ?_) (fun r1 m2 h => ?_)
  · skip
    by_cases q0 : E = "java/lang/IndexOutOfBoundsException"
    · have h := s_pos q0 h
      subst q0
      refine ⟨[], ⟨0, 9, 12, 19⟩, [], rfl, (fun z hz => absurd hz List.not_mem_nil), by decide, by decide, F_l19, by decide +kernel, fun q9 => ?_⟩
      show V 0 12 [(0, .ref (ad 0)), (1, .int p1), (2, .ref (ad 109))] [.ref q9] mx
      refine h_astore_n C dL_checksum_12 rfl (by decide) (show _ = [(3, .ref q9), (0, .ref (ad 0)), (1, .int p1), (2, .ref (ad 109))] from rfl) ?_
      refine h_iconst C (v := 1) dL_checksum_13 (by decide) ?_
      exact h_iret C dL_checksum_14 rfl h
    have h := s_neg q0 h
    cases h
  show V 0 7 [(0, .ref (ad 0)), (1, .int p1), (2, .ref (ad 109))] [.int r1, .int 0, .ref (ad 109)] m2
  refine h_i2l C dL_checksum_7 ?_
  refine h_last C dL_checksum_8 (by omega) la_109 h (fun j1 m2 hj1 _ h => ?_)
  refine h_goto C (tgt := 15) dL_checksum_9 (by decide) ?_
  refine h_iconst C (v := 0) dL_checksum_15 (by decide) ?_
  exact h_iret C dL_checksum_16 rfl h
noncomputable def f_L_isValid (p1 : Int32) (m : sM) : Option (sR Int32) :=
  s_try (f_X9_isValid p1 m) (fun r1 m2 => s_jn (fun (s0_15 : Int64) => s_ix 0 1 fun j1 => s_md (s_uL m2 109 j1 s0_15) fun m2 => some (.inl 0, m2)) fun k15 => if r1 = 0 then (k15 0) else (k15 1)) (fun E mx => if E = "java/lang/IndexOutOfBoundsException" then (some (.inl 1, mx)) else none)
set_option maxRecDepth 20000 in
set_option maxHeartbeats 4000000 in
theorem c_L_isValid (p1 : Int32) : s_Con s_i 0 110 yL_isValid wsL_isValid 18 275 1 (f_L_isValid p1) (fun ad => [.ref (ad 0), .int p1, .ref (ad 109)]) := by
  refine s_conH_of cL_isValid 4 (some .int) RL [(0, 16, 19, 19)] (by decide) rfl rfl (fun _ => Nat.le_of_ble_eq_true rfl) (fun ad m res V C h => ?_)
  unfold f_L_isValid at h
  have F_l19 : Cond.classLink RL 19 "java/lang/IndexOutOfBoundsException" ∈ wsL_isValid := by decide +kernel
  show V 1 0 [(0, .ref (ad 0)), (1, .int p1), (2, .ref (ad 109))] [] m
  refine h_aload_n C dL_isValid_0 rfl 2 rfl ?_
  refine h_iconst C (v := 0) dL_isValid_1 (by decide) ?_
  refine h_aload_n C dL_isValid_2 rfl 0 rfl ?_
  refine h_iload_n C dL_isValid_3 rfl 1 rfl ?_
  refine h_callV C (c_X9_isValid 110 (by omega) p1) (As := [.int p1]) (nn := 1) (stk := [.int p1, .ref (ad 0), .int 0, .ref (ad 109)]) (ci := 9) dL_isValid_4 gL_isValid_X9_isValid ⟨rfl, by decide, by decide, by decide +kernel⟩ (by omega) la_0 rfl rfl rfl (by decide) rfl rfl (Nat.le_of_ble_eq_true rfl) (by decide) h (fun E mx h => ?_) (fun r1 m2 h => ?_)
  · skip
    by_cases q0 : E = "java/lang/IndexOutOfBoundsException"
    · have h := s_pos q0 h
      subst q0
      refine ⟨[], ⟨0, 16, 19, 19⟩, [], rfl, (fun z hz => absurd hz List.not_mem_nil), by decide, by decide, F_l19, by decide +kernel, fun q9 => ?_⟩
      show V 0 19 [(0, .ref (ad 0)), (1, .int p1), (2, .ref (ad 109))] [.ref q9] mx
      refine h_astore_n C dL_isValid_19 rfl (by decide) (show _ = [(3, .ref q9), (0, .ref (ad 0)), (1, .int p1), (2, .ref (ad 109))] from rfl) ?_
      refine h_iconst C (v := 1) dL_isValid_20 (by decide) ?_
      exact h_iret C dL_isValid_21 rfl h
    have h := s_neg q0 h
    cases h
  show V 0 7 [(0, .ref (ad 0)), (1, .int p1), (2, .ref (ad 109))] [.int r1, .int 0, .ref (ad 109)] m2
  refine s_join h (fun k15 => ∀ (s0_15 : Int64), k15 s0_15 = some res → V 0 15 [] [.long s0_15, .int 0, .ref (ad 109)] m2) ?_ (fun k15 hk15 h => ?_)
  · intro s0_15 h
    refine h_last C dL_isValid_15 (by omega) la_109 h (fun j1 m2 hj1 _ h => ?_)
    refine h_goto C (tgt := 22) dL_isValid_16 (by decide) ?_
    refine h_iconst C (v := 0) dL_isValid_22 (by decide) ?_
    exact h_iret C dL_isValid_23 rfl h
  refine h_if_eq C (tgt := 14) dL_isValid_7 (by decide) h (fun _ h => ?_) (fun _ h => ?_)
  · skip
    refine h_lconst C (v := 0) dL_isValid_14 (by decide) ?_
    refine h_sub C [] (show _ = [] from rfl) ?_
    exact hk15 0 h
  · skip
    refine h_lconst C (v := 1) dL_isValid_10 (by decide) ?_
    refine h_goto C (tgt := 15) dL_isValid_11 (by decide) ?_
    refine h_sub C [] (show _ = [] from rfl) ?_
    exact hk15 1 h
noncomputable def f_L_salvaged (p1 : Int32) (p2 : Int32) (m : sM) : Option (sR Int32) :=
  s_try (f_X9_salvaged p1 p2 m) (fun r1 m2 => s_ix 0 1 fun j1 => s_md (s_uL m2 109 j1 (Int32.toInt64 r1)) fun m2 => some (.inl 0, m2)) (fun E mx => if E = "java/lang/IndexOutOfBoundsException" then (some (.inl 1, mx)) else if E = "java/lang/IllegalArgumentException" then (some (.inl 2, mx)) else none)
set_option maxRecDepth 20000 in
set_option maxHeartbeats 4000000 in
theorem c_L_salvaged (p1 : Int32) (p2 : Int32) : s_Con s_i 0 110 yL_salvaged wsL_salvaged 18 275 2 (f_L_salvaged p1 p2) (fun ad => [.ref (ad 0), .int p1, .int p2, .ref (ad 109)]) := by
  refine s_conH_of cL_salvaged 5 (some .int) RL [(0, 10, 13, 19), (0, 10, 17, 21)] (by decide) rfl rfl (fun _ => Nat.le_of_ble_eq_true rfl) (fun ad m res V C h => ?_)
  unfold f_L_salvaged at h
  have F_l19 : Cond.classLink RL 19 "java/lang/IndexOutOfBoundsException" ∈ wsL_salvaged := by decide +kernel
  have F_l21 : Cond.classLink RL 21 "java/lang/IllegalArgumentException" ∈ wsL_salvaged := by decide +kernel
  show V 2 0 [(0, .ref (ad 0)), (1, .int p1), (2, .int p2), (3, .ref (ad 109))] [] m
  refine h_aload_n C dL_salvaged_0 rfl 3 rfl ?_
  refine h_iconst C (v := 0) dL_salvaged_1 (by decide) ?_
  refine h_aload_n C dL_salvaged_2 rfl 0 rfl ?_
  refine h_iload_n C dL_salvaged_3 rfl 1 rfl ?_
  refine h_iload_n C dL_salvaged_4 rfl 2 rfl ?_
  refine h_callV C (c_X9_salvaged 110 (by omega) p1 p2) (As := [.int p1, .int p2]) (nn := 2) (stk := [.int p2, .int p1, .ref (ad 0), .int 0, .ref (ad 109)]) (ci := 9) dL_salvaged_5 gL_salvaged_X9_salvaged ⟨rfl, by decide, by decide, by decide +kernel⟩ (by omega) la_0 rfl rfl rfl (by decide) rfl rfl (Nat.le_of_ble_eq_true rfl) (by decide) h (fun E mx h => ?_) (fun r1 m2 h => ?_)
  · skip
    by_cases q0 : E = "java/lang/IndexOutOfBoundsException"
    · have h := s_pos q0 h
      subst q0
      refine ⟨[], ⟨0, 10, 13, 19⟩, [⟨0, 10, 17, 21⟩], rfl, (fun z hz => absurd hz List.not_mem_nil), by decide, by decide, F_l19, by decide +kernel, fun q9 => ?_⟩
      show V 0 13 [(0, .ref (ad 0)), (1, .int p1), (2, .int p2), (3, .ref (ad 109))] [.ref q9] mx
      refine h_astore C dL_salvaged_13 (by decide) (show _ = [(4, .ref q9), (0, .ref (ad 0)), (1, .int p1), (2, .int p2), (3, .ref (ad 109))] from rfl) ?_
      refine h_iconst C (v := 1) dL_salvaged_15 (by decide) ?_
      exact h_iret C dL_salvaged_16 rfl h
    have h := s_neg q0 h
    by_cases q1 : E = "java/lang/IllegalArgumentException"
    · have h := s_pos q1 h
      subst q1
      refine ⟨[⟨0, 10, 13, 19⟩], ⟨0, 10, 17, 21⟩, [], rfl, List.forall_mem_cons.mpr ⟨⟨by decide, "java/lang/IndexOutOfBoundsException", F_l19, by decide +kernel, by decide⟩, fun z hz => absurd hz List.not_mem_nil⟩, by decide, by decide, F_l21, by decide +kernel, fun q9 => ?_⟩
      show V 0 17 [(0, .ref (ad 0)), (1, .int p1), (2, .int p2), (3, .ref (ad 109))] [.ref q9] mx
      refine h_astore C dL_salvaged_17 (by decide) (show _ = [(4, .ref q9), (0, .ref (ad 0)), (1, .int p1), (2, .int p2), (3, .ref (ad 109))] from rfl) ?_
      refine h_iconst C (v := 2) dL_salvaged_19 (by decide) ?_
      exact h_iret C dL_salvaged_20 rfl h
    have h := s_neg q1 h
    cases h
  show V 0 8 [(0, .ref (ad 0)), (1, .int p1), (2, .int p2), (3, .ref (ad 109))] [.int r1, .int 0, .ref (ad 109)] m2
  refine h_i2l C dL_salvaged_8 ?_
  refine h_last C dL_salvaged_9 (by omega) la_109 h (fun j1 m2 hj1 _ h => ?_)
  refine h_goto C (tgt := 21) dL_salvaged_10 (by decide) ?_
  refine h_iconst C (v := 0) dL_salvaged_21 (by decide) ?_
  exact h_iret C dL_salvaged_22 rfl h
noncomputable def f_L_adopt (p1 : Int32) (m : sM) : Option (sR Int32) :=
  s_try (f_X9_adopt p1 m) (fun r1 m2 => s_ix 0 1 fun j1 => s_md (s_uL m2 109 j1 (Int32.toInt64 r1)) fun m2 => some (.inl 0, m2)) (fun E mx => if E = "java/lang/IndexOutOfBoundsException" then (some (.inl 1, mx)) else if E = "java/lang/IllegalStateException" then (some (.inl 2, mx)) else none)
set_option maxRecDepth 20000 in
set_option maxHeartbeats 4000000 in
theorem c_L_adopt (p1 : Int32) : s_Con s_i 0 110 yL_adopt wsL_adopt 18 275 2 (f_L_adopt p1) (fun ad => [.ref (ad 0), .int p1, .ref (ad 109)]) := by
  refine s_conH_of cL_adopt 4 (some .int) RL [(0, 9, 12, 19), (0, 9, 15, 13)] (by decide) rfl rfl (fun _ => Nat.le_of_ble_eq_true rfl) (fun ad m res V C h => ?_)
  unfold f_L_adopt at h
  have F_l19 : Cond.classLink RL 19 "java/lang/IndexOutOfBoundsException" ∈ wsL_adopt := by decide +kernel
  have F_l13 : Cond.classLink RL 13 "java/lang/IllegalStateException" ∈ wsL_adopt := by decide +kernel
  show V 2 0 [(0, .ref (ad 0)), (1, .int p1), (2, .ref (ad 109))] [] m
  refine h_aload_n C dL_adopt_0 rfl 2 rfl ?_
  refine h_iconst C (v := 0) dL_adopt_1 (by decide) ?_
  refine h_aload_n C dL_adopt_2 rfl 0 rfl ?_
  refine h_iload_n C dL_adopt_3 rfl 1 rfl ?_
  refine h_callV C (c_X9_adopt 110 (by omega) p1) (As := [.int p1]) (nn := 1) (stk := [.int p1, .ref (ad 0), .int 0, .ref (ad 109)]) (ci := 9) dL_adopt_4 gL_adopt_X9_adopt ⟨rfl, by decide, by decide, by decide +kernel⟩ (by omega) la_0 rfl rfl rfl (by decide) rfl rfl (Nat.le_of_ble_eq_true rfl) (by decide) h (fun E mx h => ?_) (fun r1 m2 h => ?_)
  · skip
    by_cases q0 : E = "java/lang/IndexOutOfBoundsException"
    · have h := s_pos q0 h
      subst q0
      refine ⟨[], ⟨0, 9, 12, 19⟩, [⟨0, 9, 15, 13⟩], rfl, (fun z hz => absurd hz List.not_mem_nil), by decide, by decide, F_l19, by decide +kernel, fun q9 => ?_⟩
      show V 0 12 [(0, .ref (ad 0)), (1, .int p1), (2, .ref (ad 109))] [.ref q9] mx
      refine h_astore_n C dL_adopt_12 rfl (by decide) (show _ = [(3, .ref q9), (0, .ref (ad 0)), (1, .int p1), (2, .ref (ad 109))] from rfl) ?_
      refine h_iconst C (v := 1) dL_adopt_13 (by decide) ?_
      exact h_iret C dL_adopt_14 rfl h
    have h := s_neg q0 h
    by_cases q1 : E = "java/lang/IllegalStateException"
    · have h := s_pos q1 h
      subst q1
      refine ⟨[⟨0, 9, 12, 19⟩], ⟨0, 9, 15, 13⟩, [], rfl, List.forall_mem_cons.mpr ⟨⟨by decide, "java/lang/IndexOutOfBoundsException", F_l19, by decide +kernel, by decide⟩, fun z hz => absurd hz List.not_mem_nil⟩, by decide, by decide, F_l13, by decide +kernel, fun q9 => ?_⟩
      show V 0 15 [(0, .ref (ad 0)), (1, .int p1), (2, .ref (ad 109))] [.ref q9] mx
      refine h_astore_n C dL_adopt_15 rfl (by decide) (show _ = [(3, .ref q9), (0, .ref (ad 0)), (1, .int p1), (2, .ref (ad 109))] from rfl) ?_
      refine h_iconst C (v := 2) dL_adopt_16 (by decide) ?_
      exact h_iret C dL_adopt_17 rfl h
    have h := s_neg q1 h
    cases h
  show V 0 7 [(0, .ref (ad 0)), (1, .int p1), (2, .ref (ad 109))] [.int r1, .int 0, .ref (ad 109)] m2
  refine h_i2l C dL_adopt_7 ?_
  refine h_last C dL_adopt_8 (by omega) la_109 h (fun j1 m2 hj1 _ h => ?_)
  refine h_goto C (tgt := 18) dL_adopt_9 (by decide) ?_
  refine h_iconst C (v := 0) dL_adopt_18 (by decide) ?_
  exact h_iret C dL_adopt_19 rfl h
