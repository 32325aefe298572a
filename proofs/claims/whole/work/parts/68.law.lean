noncomputable def f_law_42 (xs : Nat → Int32) (L : Nat) (i : Int32) (kk : sM → Option (sR Int32)) (m : sM) : Option (sR Int32) :=
  s_bf 0 109 (f_X9_salvage m) m fun r365 m366 => s_bf 110 29 (f_X10_salvage m366) m366 fun r367 m368 => if r365 = r367 then (kk  m368) else (some (.inl 0, m368))
set_option maxRecDepth 20000 in
set_option maxHeartbeats 4000000 in
theorem c_law_42 {ad : Nat → Nat} {xs : Nat → Int32} {L scr : Nat} {res : sR Int32} {V : sV} {m9 : sM} (C : sCL ad xs L scr RL cL_law 7 wsL_law res V) (hres : res = (.inl 1, m9)) (n : Nat) (i : Int32) (kk : sM → Option (sR Int32)) (m : sM) (hk : ∀ m, kk m = some res → V (16 * n + 0) 2601 [(0, .ref scr), (1, .ref (ad 0)), (2, .ref (ad 110)), (3, .ref (ad 109)), (4, .int i)] [] m) (h : f_law_42 xs L i kk m = some res) : V (16 * n + 16) 2464 [(0, .ref scr), (1, .ref (ad 0)), (2, .ref (ad 110)), (3, .ref (ad 109)), (4, .int i)] [] m := by
  unfold f_law_42 at h
  refine l_aload_n C dL_law_2464 rfl 1 rfl ?_
  refine l_callV C (c_X9_salvage 109 (by omega)) (by decide) (As := []) (nn := 0) (stk := [.ref (ad 0)]) (ci := 9) dL_law_2465 gL_law_X9_salvage ⟨rfl, by decide, by decide, by decide +kernel⟩ (by omega) la_0 rfl rfl rfl (by decide) rfl rfl (Nat.le_of_ble_eq_true rfl) (by omega) h (fun r365 m366 h => ?_)
  show V (16 * n + 16) 2468 [(0, .ref scr), (1, .ref (ad 0)), (2, .ref (ad 110)), (3, .ref (ad 109)), (4, .int i)] [.int r365] m366
  refine l_aload_n C dL_law_2468 rfl 2 rfl ?_
  refine l_callV C (c_X10_salvage 29 (by omega)) (by decide) (As := []) (nn := 0) (stk := [.ref (ad 110), .int r365]) (ci := 10) dL_law_2469 gL_law_X10_salvage ⟨rfl, by decide, by decide, by decide +kernel⟩ (by omega) la_110 rfl rfl rfl (by decide) rfl rfl (Nat.le_of_ble_eq_true rfl) (by omega) h (fun r367 m368 h => ?_)
  show V (16 * n + 16) 2472 [(0, .ref scr), (1, .ref (ad 0)), (2, .ref (ad 110)), (3, .ref (ad 109)), (4, .int i)] [.int r367, .int r365] m368
  refine l_icmp_eq C (tgt := 2601) dL_law_2472 (by decide) h (fun _ h => ?_) (fun _ h => ?_)
  · skip
    refine l_less C (b' := (16 * n + 0)) (by omega) ?_
    exact hk m368 h
  · skip
    refine l_iconst C (v := 0) dL_law_2475 (by decide) ?_
    exact l_iret C rfl dL_law_2476 h hres
noncomputable def f_law_43 (xs : Nat → Int32) (L : Nat) (i : Int32) (kk : sM → Option (sR Int32)) (m : sM) : Option (sR Int32) :=
  s_ix (i + 1) L fun j369 => s_ix (i + 2) L fun j370 => s_bf 0 110 (f_L_salvaged (xs j369) (xs j370) m) m fun r371 m372 => s_ix (i + 1) L fun j373 => s_ix (i + 2) L fun j374 => s_bf 110 29 (f_X10_salvaged (xs j373) (xs j374) m372) m372 fun r375 m376 => s_bf 110 29 (f_X10_thrown m376) m376 fun r377 m378 => if r377 = r371 then (s_jn (kk  m378) fun k2542 => if r371 = 0 then (s_ix 0 1 fun j379 => if (lg_cmp (m378.2 109 j379) (Int32.toInt64 r375)) = 0 then (k2542) else (some (.inl 0, m378))) else (k2542)) else (some (.inl 0, m378))
set_option maxRecDepth 20000 in
set_option maxHeartbeats 4000000 in
theorem c_law_43 {ad : Nat → Nat} {xs : Nat → Int32} {L scr : Nat} {res : sR Int32} {V : sV} {m9 : sM} (C : sCL ad xs L scr RL cL_law 7 wsL_law res V) (hres : res = (.inl 1, m9)) (n : Nat) (i : Int32) (kk : sM → Option (sR Int32)) (m : sM) (hk : ∀ m, kk m = some res → V (16 * n + 0) 2601 [(0, .ref scr), (1, .ref (ad 0)), (2, .ref (ad 110)), (3, .ref (ad 109)), (4, .int i)] [] m) (h : f_law_43 xs L i kk m = some res) : V (16 * n + 16) 2477 [(0, .ref scr), (1, .ref (ad 0)), (2, .ref (ad 110)), (3, .ref (ad 109)), (4, .int i)] [] m := by
  unfold f_law_43 at h
  refine l_aload_n C dL_law_2477 rfl 1 rfl ?_
  refine l_aload_n C dL_law_2478 rfl 0 rfl ?_
  refine l_iload C dL_law_2479 4 rfl ?_
  refine l_iconst C (v := 1) dL_law_2481 (by decide) ?_
  refine l_iadd C dL_law_2482 ?_
  refine l_iald C dL_law_2483 h (fun j369 _ h => ?_)
  refine l_aload_n C dL_law_2484 rfl 0 rfl ?_
  refine l_iload C dL_law_2485 4 rfl ?_
  refine l_iconst C (v := 2) dL_law_2487 (by decide) ?_
  refine l_iadd C dL_law_2488 ?_
  refine l_iald C dL_law_2489 h (fun j370 _ h => ?_)
  refine l_aload_n C dL_law_2490 rfl 3 rfl ?_
  refine l_callS C (c_L_salvaged (xs j369) (xs j370)) (by decide) (As := [.ref (ad 0), .int (xs j369), .int (xs j370), .ref (ad 109)]) (nn := 4) (stk := [.ref (ad 109), .int (xs j370), .int (xs j369), .ref (ad 0)]) dL_law_2491 gL_law_L_salvaged ⟨by decide, by decide, by decide +kernel⟩ rfl rfl (by decide) rfl rfl (Nat.le_of_ble_eq_true rfl) (by omega) h (fun r371 m372 h => ?_)
  refine l_less C (b' := (16 * n + 14)) (by omega) ?_
  show V (16 * n + 14) 2494 [(0, .ref scr), (1, .ref (ad 0)), (2, .ref (ad 110)), (3, .ref (ad 109)), (4, .int i)] [.int r371] m372
  refine l_istore C dL_law_2494 (by decide) (show _ = [(5, .int r371), (0, .ref scr), (1, .ref (ad 0)), (2, .ref (ad 110)), (3, .ref (ad 109)), (4, .int i)] from rfl) ?_
  refine l_aload_n C dL_law_2496 rfl 3 rfl ?_
  refine l_aload_n C dL_law_2497 rfl 1 rfl ?_
  refine l_iload C dL_law_2498 5 rfl ?_
  refine l_iconst C (v := 1) dL_law_2500 (by decide) ?_
  refine l_iadd C dL_law_2501 ?_
  refine l_iald C dL_law_2502 h (fun j373 _ h => ?_)
  refine l_aload_n C dL_law_2503 rfl 1 rfl ?_
  refine l_iload C dL_law_2504 5 rfl ?_
  refine l_iconst C (v := 2) dL_law_2506 (by decide) ?_
  refine l_iadd C dL_law_2507 ?_
  refine l_iald C dL_law_2508 h (fun j374 _ h => ?_)
  refine l_callV C (c_X10_salvaged 29 (by omega) (xs j373) (xs j374)) (by decide) (As := [.int (xs j373), .int (xs j374)]) (nn := 2) (stk := [.int (xs j374), .int (xs j373), .ref (ad 110)]) (ci := 10) dL_law_2509 gL_law_X10_salvaged ⟨rfl, by decide, by decide, by decide +kernel⟩ (by omega) la_110 rfl rfl rfl (by decide) rfl rfl (Nat.le_of_ble_eq_true rfl) (by omega) h (fun r375 m376 h => ?_)
  show V (16 * n + 14) 2512 [(5, .int r371), (0, .ref scr), (1, .ref (ad 0)), (2, .ref (ad 110)), (3, .ref (ad 109)), (4, .int i)] [.int r375] m376
  refine l_istore C dL_law_2512 (by decide) (show _ = [(6, .int r375), (5, .int r371), (0, .ref scr), (1, .ref (ad 0)), (2, .ref (ad 110)), (3, .ref (ad 109)), (4, .int i)] from rfl) ?_
  refine l_aload_n C dL_law_2514 rfl 4 rfl ?_
  refine l_callV C (c_X10_thrown 29 (by omega)) (by decide) (As := []) (nn := 0) (stk := [.ref (ad 110)]) (ci := 10) dL_law_2515 gL_law_X10_thrown ⟨rfl, by decide, by decide, by decide +kernel⟩ (by omega) la_110 rfl rfl rfl (by decide) rfl rfl (Nat.le_of_ble_eq_true rfl) (by omega) h (fun r377 m378 h => ?_)
  show V (16 * n + 14) 2518 [(6, .int r375), (5, .int r371), (0, .ref scr), (1, .ref (ad 0)), (2, .ref (ad 110)), (3, .ref (ad 109)), (4, .int i)] [.int r377] m378
  refine l_iload C dL_law_2518 1 rfl ?_
  refine l_icmp_eq C (tgt := 2525) dL_law_2520 (by decide) h (fun _ h => ?_) (fun _ h => ?_)
  · skip
    refine l_iload C dL_law_2525 1 rfl ?_
    refine s_join h (fun k2542 => k2542  = some res → V (16 * n + 14) 2542 [(0, .ref scr), (1, .ref (ad 0)), (2, .ref (ad 110)), (3, .ref (ad 109)), (4, .int i)] [] m378) ?_ (fun k2542 hk2542 h => ?_)
    · intro  h
      refine l_goto C (tgt := 2601) dL_law_2542 (by decide) ?_
      refine l_less C (b' := (16 * n + 0)) (by omega) ?_
      exact hk m378 h
    refine l_if_ne C (tgt := 2542) dL_law_2527 (by decide) h (fun _ h => ?_) (fun _ h => ?_)
    · skip
      refine l_aload_n C dL_law_2530 rfl 5 rfl ?_
      refine l_iconst C (v := 0) dL_law_2531 (by decide) ?_
      refine l_lald C dL_law_2532 (by omega) la_109 h (fun j379 _ h => ?_)
      refine l_iload C dL_law_2533 0 rfl ?_
      refine l_i2l C dL_law_2535 ?_
      refine l_lcmp C dL_law_2536 ?_
      refine l_if_eq C (tgt := 2542) dL_law_2537 (by decide) h (fun _ h => ?_) (fun _ h => ?_)
      · skip
        refine l_sub C [2, 3, 4, 5, 6] (show _ = [(0, .ref scr), (1, .ref (ad 0)), (2, .ref (ad 110)), (3, .ref (ad 109)), (4, .int i)] from rfl) ?_
        exact hk2542 h
      · skip
        refine l_iconst C (v := 0) dL_law_2540 (by decide) ?_
        exact l_iret C rfl dL_law_2541 h hres
    · skip
      refine l_sub C [2, 3, 4, 5, 6] (show _ = [(0, .ref scr), (1, .ref (ad 0)), (2, .ref (ad 110)), (3, .ref (ad 109)), (4, .int i)] from rfl) ?_
      exact hk2542 h
  · skip
    refine l_iconst C (v := 0) dL_law_2523 (by decide) ?_
    exact l_iret C rfl dL_law_2524 h hres
noncomputable def f_law_44 (xs : Nat → Int32) (L : Nat) (i : Int32) (kk : sM → Option (sR Int32)) (m : sM) : Option (sR Int32) :=
  s_ix (i + 1) L fun j380 => s_bf 0 110 (f_L_adopt (xs j380) m) m fun r381 m382 => s_ix (i + 1) L fun j383 => s_bf 110 29 (f_X10_adopt (xs j383) m382) m382 fun r384 m385 => s_bf 110 29 (f_X10_thrown m385) m385 fun r386 m387 => if r386 = r381 then (s_jn (kk  m387) fun k2598 => if r381 = 0 then (s_ix 0 1 fun j388 => if (lg_cmp (m387.2 109 j388) (Int32.toInt64 r384)) = 0 then (k2598) else (some (.inl 0, m387))) else (k2598)) else (some (.inl 0, m387))
set_option maxRecDepth 20000 in
set_option maxHeartbeats 4000000 in
theorem c_law_44 {ad : Nat → Nat} {xs : Nat → Int32} {L scr : Nat} {res : sR Int32} {V : sV} {m9 : sM} (C : sCL ad xs L scr RL cL_law 7 wsL_law res V) (hres : res = (.inl 1, m9)) (n : Nat) (i : Int32) (kk : sM → Option (sR Int32)) (m : sM) (hk : ∀ m, kk m = some res → V (16 * n + 0) 2601 [(0, .ref scr), (1, .ref (ad 0)), (2, .ref (ad 110)), (3, .ref (ad 109)), (4, .int i)] [] m) (h : f_law_44 xs L i kk m = some res) : V (16 * n + 16) 2545 [(0, .ref scr), (1, .ref (ad 0)), (2, .ref (ad 110)), (3, .ref (ad 109)), (4, .int i)] [] m := by
  unfold f_law_44 at h
  refine l_aload_n C dL_law_2545 rfl 1 rfl ?_
  refine l_aload_n C dL_law_2546 rfl 0 rfl ?_
  refine l_iload C dL_law_2547 4 rfl ?_
  refine l_iconst C (v := 1) dL_law_2549 (by decide) ?_
  refine l_iadd C dL_law_2550 ?_
  refine l_iald C dL_law_2551 h (fun j380 _ h => ?_)
  refine l_aload_n C dL_law_2552 rfl 3 rfl ?_
  refine l_callS C (c_L_adopt (xs j380)) (by decide) (As := [.ref (ad 0), .int (xs j380), .ref (ad 109)]) (nn := 3) (stk := [.ref (ad 109), .int (xs j380), .ref (ad 0)]) dL_law_2553 gL_law_L_adopt ⟨by decide, by decide, by decide +kernel⟩ rfl rfl (by decide) rfl rfl (Nat.le_of_ble_eq_true rfl) (by omega) h (fun r381 m382 h => ?_)
  refine l_less C (b' := (16 * n + 14)) (by omega) ?_
  show V (16 * n + 14) 2556 [(0, .ref scr), (1, .ref (ad 0)), (2, .ref (ad 110)), (3, .ref (ad 109)), (4, .int i)] [.int r381] m382
  refine l_istore C dL_law_2556 (by decide) (show _ = [(5, .int r381), (0, .ref scr), (1, .ref (ad 0)), (2, .ref (ad 110)), (3, .ref (ad 109)), (4, .int i)] from rfl) ?_
  refine l_aload_n C dL_law_2558 rfl 3 rfl ?_
  refine l_aload_n C dL_law_2559 rfl 1 rfl ?_
  refine l_iload C dL_law_2560 5 rfl ?_
  refine l_iconst C (v := 1) dL_law_2562 (by decide) ?_
  refine l_iadd C dL_law_2563 ?_
  refine l_iald C dL_law_2564 h (fun j383 _ h => ?_)
  refine l_callV C (c_X10_adopt 29 (by omega) (xs j383)) (by decide) (As := [.int (xs j383)]) (nn := 1) (stk := [.int (xs j383), .ref (ad 110)]) (ci := 10) dL_law_2565 gL_law_X10_adopt ⟨rfl, by decide, by decide, by decide +kernel⟩ (by omega) la_110 rfl rfl rfl (by decide) rfl rfl (Nat.le_of_ble_eq_true rfl) (by omega) h (fun r384 m385 h => ?_)
  show V (16 * n + 14) 2568 [(5, .int r381), (0, .ref scr), (1, .ref (ad 0)), (2, .ref (ad 110)), (3, .ref (ad 109)), (4, .int i)] [.int r384] m385
  refine l_istore C dL_law_2568 (by decide) (show _ = [(6, .int r384), (5, .int r381), (0, .ref scr), (1, .ref (ad 0)), (2, .ref (ad 110)), (3, .ref (ad 109)), (4, .int i)] from rfl) ?_
  refine l_aload_n C dL_law_2570 rfl 4 rfl ?_
  refine l_callV C (c_X10_thrown 29 (by omega)) (by decide) (As := []) (nn := 0) (stk := [.ref (ad 110)]) (ci := 10) dL_law_2571 gL_law_X10_thrown ⟨rfl, by decide, by decide, by decide +kernel⟩ (by omega) la_110 rfl rfl rfl (by decide) rfl rfl (Nat.le_of_ble_eq_true rfl) (by omega) h (fun r386 m387 h => ?_)
  show V (16 * n + 14) 2574 [(6, .int r384), (5, .int r381), (0, .ref scr), (1, .ref (ad 0)), (2, .ref (ad 110)), (3, .ref (ad 109)), (4, .int i)] [.int r386] m387
  refine l_iload C dL_law_2574 1 rfl ?_
  refine l_icmp_eq C (tgt := 2581) dL_law_2576 (by decide) h (fun _ h => ?_) (fun _ h => ?_)
  · skip
    refine l_iload C dL_law_2581 1 rfl ?_
    refine s_join h (fun k2598 => k2598  = some res → V (16 * n + 14) 2598 [(0, .ref scr), (1, .ref (ad 0)), (2, .ref (ad 110)), (3, .ref (ad 109)), (4, .int i)] [] m387) ?_ (fun k2598 hk2598 h => ?_)
    · intro  h
      refine l_goto C (tgt := 2601) dL_law_2598 (by decide) ?_
      refine l_less C (b' := (16 * n + 0)) (by omega) ?_
      exact hk m387 h
    refine l_if_ne C (tgt := 2598) dL_law_2583 (by decide) h (fun _ h => ?_) (fun _ h => ?_)
    · skip
      refine l_aload_n C dL_law_2586 rfl 5 rfl ?_
      refine l_iconst C (v := 0) dL_law_2587 (by decide) ?_
      refine l_lald C dL_law_2588 (by omega) la_109 h (fun j388 _ h => ?_)
      refine l_iload C dL_law_2589 0 rfl ?_
      refine l_i2l C dL_law_2591 ?_
      refine l_lcmp C dL_law_2592 ?_
      refine l_if_eq C (tgt := 2598) dL_law_2593 (by decide) h (fun _ h => ?_) (fun _ h => ?_)
      · skip
        refine l_sub C [2, 3, 4, 5, 6] (show _ = [(0, .ref scr), (1, .ref (ad 0)), (2, .ref (ad 110)), (3, .ref (ad 109)), (4, .int i)] from rfl) ?_
        exact hk2598 h
      · skip
        refine l_iconst C (v := 0) dL_law_2596 (by decide) ?_
        exact l_iret C rfl dL_law_2597 h hres
    · skip
      refine l_sub C [2, 3, 4, 5, 6] (show _ = [(0, .ref scr), (1, .ref (ad 0)), (2, .ref (ad 110)), (3, .ref (ad 109)), (4, .int i)] from rfl) ?_
      exact hk2598 h
  · skip
    refine l_iconst C (v := 0) dL_law_2579 (by decide) ?_
    exact l_iret C rfl dL_law_2580 h hres
noncomputable def f_law_sw (xs : Nat → Int32) (L : Nat) (z i : Int32) (kk : sM → Option (sR Int32)) (m : sM) : Option (sR Int32) :=
  if z = 0 then f_law_0 xs L i kk m else if z = 1 then f_law_1 xs L i kk m else if z = 2 then f_law_2 xs L i kk m else if z = 3 then f_law_3 xs L i kk m else if z = 4 then f_law_4 xs L i kk m else if z = 5 then f_law_5 xs L i kk m else if z = 6 then f_law_6 xs L i kk m else if z = 7 then f_law_7 xs L i kk m else if z = 8 then f_law_8 xs L i kk m else if z = 9 then f_law_9 xs L i kk m else if z = 10 then f_law_10 xs L i kk m else if z = 11 then f_law_11 xs L i kk m else if z = 12 then f_law_12 xs L i kk m else if z = 13 then f_law_13 xs L i kk m else if z = 14 then f_law_14 xs L i kk m else if z = 15 then f_law_15 xs L i kk m else if z = 16 then f_law_16 xs L i kk m else if z = 17 then f_law_17 xs L i kk m else if z = 18 then f_law_18 xs L i kk m else if z = 19 then f_law_19 xs L i kk m else if z = 20 then f_law_20 xs L i kk m else if z = 21 then f_law_21 xs L i kk m else if z = 22 then f_law_22 xs L i kk m else if z = 23 then f_law_23 xs L i kk m else if z = 24 then f_law_24 xs L i kk m else if z = 25 then f_law_25 xs L i kk m else if z = 26 then f_law_26 xs L i kk m else if z = 27 then f_law_27 xs L i kk m else if z = 28 then f_law_28 xs L i kk m else if z = 29 then f_law_29 xs L i kk m else if z = 30 then f_law_30 xs L i kk m else if z = 31 then f_law_31 xs L i kk m else if z = 32 then f_law_32 xs L i kk m else if z = 33 then f_law_33 xs L i kk m else if z = 34 then f_law_34 xs L i kk m else if z = 35 then f_law_35 xs L i kk m else if z = 36 then f_law_36 xs L i kk m else if z = 37 then f_law_37 xs L i kk m else if z = 38 then f_law_38 xs L i kk m else if z = 39 then f_law_39 xs L i kk m else if z = 40 then f_law_40 xs L i kk m else if z = 41 then f_law_41 xs L i kk m else if z = 42 then f_law_42 xs L i kk m else if z = 43 then f_law_43 xs L i kk m else if z = 44 then f_law_44 xs L i kk m else kk m
set_option maxRecDepth 20000 in
set_option maxHeartbeats 8000000 in
theorem c_law_sw {ad : Nat → Nat} {xs : Nat → Int32} {L scr : Nat} {res : sR Int32} {V : sV} {m9 : sM} (C : sCL ad xs L scr RL cL_law 7 wsL_law res V) (hres : res = (.inl 1, m9)) (n : Nat) (z i : Int32) (kk : sM → Option (sR Int32)) (m : sM) (hk : ∀ m, kk m = some res → V (16 * n + 0) 2601 [(0, .ref scr), (1, .ref (ad 0)), (2, .ref (ad 110)), (3, .ref (ad 109)), (4, .int i)] [] m) (h : f_law_sw xs L z i kk m = some res) : V (16 * n + 16) 39 [(0, .ref scr), (1, .ref (ad 0)), (2, .ref (ad 110)), (3, .ref (ad 109)), (4, .int i)] [.int z] m := by
  unfold f_law_sw at h
  by_cases q0 : z = 0
  · have h := s_pos q0 h
    exact l_tabIn C (off := 193) (tgt := 232) dL_law_39 (by rw [q0]; decide) (by rw [q0]; decide) (by rw [q0]; rfl) (by decide) (c_law_0 C hres n i kk m hk h)
  have h := s_neg q0 h
  by_cases q1 : z = 1
  · have h := s_pos q1 h
    exact l_tabIn C (off := 206) (tgt := 245) dL_law_39 (by rw [q1]; decide) (by rw [q1]; decide) (by rw [q1]; rfl) (by decide) (c_law_1 C hres n i kk m hk h)
  have h := s_neg q1 h
  by_cases q2 : z = 2
  · have h := s_pos q2 h
    exact l_tabIn C (off := 250) (tgt := 289) dL_law_39 (by rw [q2]; decide) (by rw [q2]; decide) (by rw [q2]; rfl) (by decide) (c_law_2 C hres n i kk m hk h)
  have h := s_neg q2 h
  by_cases q3 : z = 3
  · have h := s_pos q3 h
    exact l_tabIn C (off := 337) (tgt := 376) dL_law_39 (by rw [q3]; decide) (by rw [q3]; decide) (by rw [q3]; rfl) (by decide) (c_law_3 C hres n i kk m hk h)
  have h := s_neg q3 h
  by_cases q4 : z = 4
  · have h := s_pos q4 h
    exact l_tabIn C (off := 405) (tgt := 444) dL_law_39 (by rw [q4]; decide) (by rw [q4]; decide) (by rw [q4]; rfl) (by decide) (c_law_4 C hres n i kk m hk h)
  have h := s_neg q4 h
  by_cases q5 : z = 5
  · have h := s_pos q5 h
    exact l_tabIn C (off := 473) (tgt := 512) dL_law_39 (by rw [q5]; decide) (by rw [q5]; decide) (by rw [q5]; rfl) (by decide) (c_law_5 C hres n i kk m hk h)
  have h := s_neg q5 h
  by_cases q6 : z = 6
  · have h := s_pos q6 h
    exact l_tabIn C (off := 529) (tgt := 568) dL_law_39 (by rw [q6]; decide) (by rw [q6]; decide) (by rw [q6]; rfl) (by decide) (c_law_6 C hres n i kk m hk h)
  have h := s_neg q6 h
  by_cases q7 : z = 7
  · have h := s_pos q7 h
    exact l_tabIn C (off := 585) (tgt := 624) dL_law_39 (by rw [q7]; decide) (by rw [q7]; decide) (by rw [q7]; rfl) (by decide) (c_law_7 C hres n i kk m hk h)
  have h := s_neg q7 h
  by_cases q8 : z = 8
  · have h := s_pos q8 h
    exact l_tabIn C (off := 641) (tgt := 680) dL_law_39 (by rw [q8]; decide) (by rw [q8]; decide) (by rw [q8]; rfl) (by decide) (c_law_8 C hres n i kk m hk h)
  have h := s_neg q8 h
  by_cases q9 : z = 9
  · have h := s_pos q9 h
    exact l_tabIn C (off := 697) (tgt := 736) dL_law_39 (by rw [q9]; decide) (by rw [q9]; decide) (by rw [q9]; rfl) (by decide) (c_law_9 C hres n i kk m hk h)
  have h := s_neg q9 h
  by_cases q10 : z = 10
  · have h := s_pos q10 h
    exact l_tabIn C (off := 753) (tgt := 792) dL_law_39 (by rw [q10]; decide) (by rw [q10]; decide) (by rw [q10]; rfl) (by decide) (c_law_10 C hres n i kk m hk h)
  have h := s_neg q10 h
  by_cases q11 : z = 11
  · have h := s_pos q11 h
    exact l_tabIn C (off := 809) (tgt := 848) dL_law_39 (by rw [q11]; decide) (by rw [q11]; decide) (by rw [q11]; rfl) (by decide) (c_law_11 C hres n i kk m hk h)
  have h := s_neg q11 h
  by_cases q12 : z = 12
  · have h := s_pos q12 h
    exact l_tabIn C (off := 867) (tgt := 906) dL_law_39 (by rw [q12]; decide) (by rw [q12]; decide) (by rw [q12]; rfl) (by decide) (c_law_12 C hres n i kk m hk h)
  have h := s_neg q12 h
  by_cases q13 : z = 13
  · have h := s_pos q13 h
    exact l_tabIn C (off := 923) (tgt := 962) dL_law_39 (by rw [q13]; decide) (by rw [q13]; decide) (by rw [q13]; rfl) (by decide) (c_law_13 C hres n i kk m hk h)
  have h := s_neg q13 h
  by_cases q14 : z = 14
  · have h := s_pos q14 h
    exact l_tabIn C (off := 979) (tgt := 1018) dL_law_39 (by rw [q14]; decide) (by rw [q14]; decide) (by rw [q14]; rfl) (by decide) (c_law_14 C hres n i kk m hk h)
  have h := s_neg q14 h
  by_cases q15 : z = 15
  · have h := s_pos q15 h
    exact l_tabIn C (off := 1023) (tgt := 1062) dL_law_39 (by rw [q15]; decide) (by rw [q15]; decide) (by rw [q15]; rfl) (by decide) (c_law_15 C hres n i kk m hk h)
  have h := s_neg q15 h
  by_cases q16 : z = 16
  · have h := s_pos q16 h
    exact l_tabIn C (off := 1079) (tgt := 1118) dL_law_39 (by rw [q16]; decide) (by rw [q16]; decide) (by rw [q16]; rfl) (by decide) (c_law_16 C hres n i kk m hk h)
  have h := s_neg q16 h
  by_cases q17 : z = 17
  · have h := s_pos q17 h
    exact l_tabIn C (off := 1092) (tgt := 1131) dL_law_39 (by rw [q17]; decide) (by rw [q17]; decide) (by rw [q17]; rfl) (by decide) (c_law_17 C hres n i kk m hk h)
  have h := s_neg q17 h
  by_cases q18 : z = 18
  · have h := s_pos q18 h
    exact l_tabIn C (off := 1148) (tgt := 1187) dL_law_39 (by rw [q18]; decide) (by rw [q18]; decide) (by rw [q18]; rfl) (by decide) (c_law_18 C hres n i kk m hk h)
  have h := s_neg q18 h
  by_cases q19 : z = 19
  · have h := s_pos q19 h
    exact l_tabIn C (off := 1192) (tgt := 1231) dL_law_39 (by rw [q19]; decide) (by rw [q19]; decide) (by rw [q19]; rfl) (by decide) (c_law_19 C hres n i kk m hk h)
  have h := s_neg q19 h
  by_cases q20 : z = 20
  · have h := s_pos q20 h
    exact l_tabIn C (off := 1205) (tgt := 1244) dL_law_39 (by rw [q20]; decide) (by rw [q20]; decide) (by rw [q20]; rfl) (by decide) (c_law_20 C hres n i kk m hk h)
  have h := s_neg q20 h
  by_cases q21 : z = 21
  · have h := s_pos q21 h
    exact l_tabIn C (off := 1249) (tgt := 1288) dL_law_39 (by rw [q21]; decide) (by rw [q21]; decide) (by rw [q21]; rfl) (by decide) (c_law_21 C hres n i kk m hk h)
  have h := s_neg q21 h
  by_cases q22 : z = 22
  · have h := s_pos q22 h
    exact l_tabIn C (off := 1293) (tgt := 1332) dL_law_39 (by rw [q22]; decide) (by rw [q22]; decide) (by rw [q22]; rfl) (by decide) (c_law_22 C hres n i kk m hk h)
  have h := s_neg q22 h
  by_cases q23 : z = 23
  · have h := s_pos q23 h
    exact l_tabIn C (off := 1349) (tgt := 1388) dL_law_39 (by rw [q23]; decide) (by rw [q23]; decide) (by rw [q23]; rfl) (by decide) (c_law_23 C hres n i kk m hk h)
  have h := s_neg q23 h
  by_cases q24 : z = 24
  · have h := s_pos q24 h
    exact l_tabIn C (off := 1405) (tgt := 1444) dL_law_39 (by rw [q24]; decide) (by rw [q24]; decide) (by rw [q24]; rfl) (by decide) (c_law_24 C hres n i kk m hk h)
  have h := s_neg q24 h
  by_cases q25 : z = 25
  · have h := s_pos q25 h
    exact l_tabIn C (off := 1473) (tgt := 1512) dL_law_39 (by rw [q25]; decide) (by rw [q25]; decide) (by rw [q25]; rfl) (by decide) (c_law_25 C hres n i kk m hk h)
  have h := s_neg q25 h
  by_cases q26 : z = 26
  · have h := s_pos q26 h
    exact l_tabIn C (off := 1529) (tgt := 1568) dL_law_39 (by rw [q26]; decide) (by rw [q26]; decide) (by rw [q26]; rfl) (by decide) (c_law_26 C hres n i kk m hk h)
  have h := s_neg q26 h
  by_cases q27 : z = 27
  · have h := s_pos q27 h
    exact l_tabIn C (off := 1573) (tgt := 1612) dL_law_39 (by rw [q27]; decide) (by rw [q27]; decide) (by rw [q27]; rfl) (by decide) (c_law_27 C hres n i kk m hk h)
  have h := s_neg q27 h
  by_cases q28 : z = 28
  · have h := s_pos q28 h
    exact l_tabIn C (off := 1629) (tgt := 1668) dL_law_39 (by rw [q28]; decide) (by rw [q28]; decide) (by rw [q28]; rfl) (by decide) (c_law_28 C hres n i kk m hk h)
  have h := s_neg q28 h
  by_cases q29 : z = 29
  · have h := s_pos q29 h
    exact l_tabIn C (off := 1673) (tgt := 1712) dL_law_39 (by rw [q29]; decide) (by rw [q29]; decide) (by rw [q29]; rfl) (by decide) (c_law_29 C hres n i kk m hk h)
  have h := s_neg q29 h
  by_cases q30 : z = 30
  · have h := s_pos q30 h
    exact l_tabIn C (off := 1686) (tgt := 1725) dL_law_39 (by rw [q30]; decide) (by rw [q30]; decide) (by rw [q30]; rfl) (by decide) (c_law_30 C hres n i kk m hk h)
  have h := s_neg q30 h
  by_cases q31 : z = 31
  · have h := s_pos q31 h
    exact l_tabIn C (off := 1754) (tgt := 1793) dL_law_39 (by rw [q31]; decide) (by rw [q31]; decide) (by rw [q31]; rfl) (by decide) (c_law_31 C hres n i kk m hk h)
  have h := s_neg q31 h
  by_cases q32 : z = 32
  · have h := s_pos q32 h
    exact l_tabIn C (off := 1810) (tgt := 1849) dL_law_39 (by rw [q32]; decide) (by rw [q32]; decide) (by rw [q32]; rfl) (by decide) (c_law_32 C hres n i kk m hk h)
  have h := s_neg q32 h
  by_cases q33 : z = 33
  · have h := s_pos q33 h
    exact l_tabIn C (off := 1854) (tgt := 1893) dL_law_39 (by rw [q33]; decide) (by rw [q33]; decide) (by rw [q33]; rfl) (by decide) (c_law_33 C hres n i kk m hk h)
  have h := s_neg q33 h
  by_cases q34 : z = 34
  · have h := s_pos q34 h
    exact l_tabIn C (off := 1922) (tgt := 1961) dL_law_39 (by rw [q34]; decide) (by rw [q34]; decide) (by rw [q34]; rfl) (by decide) (c_law_34 C hres n i kk m hk h)
  have h := s_neg q34 h
  by_cases q35 : z = 35
  · have h := s_pos q35 h
    exact l_tabIn C (off := 1978) (tgt := 2017) dL_law_39 (by rw [q35]; decide) (by rw [q35]; decide) (by rw [q35]; rfl) (by decide) (c_law_35 C hres n i kk m hk h)
  have h := s_neg q35 h
  by_cases q36 : z = 36
  · have h := s_pos q36 h
    exact l_tabIn C (off := 2034) (tgt := 2073) dL_law_39 (by rw [q36]; decide) (by rw [q36]; decide) (by rw [q36]; rfl) (by decide) (c_law_36 C hres n i kk m hk h)
  have h := s_neg q36 h
  by_cases q37 : z = 37
  · have h := s_pos q37 h
    exact l_tabIn C (off := 2090) (tgt := 2129) dL_law_39 (by rw [q37]; decide) (by rw [q37]; decide) (by rw [q37]; rfl) (by decide) (c_law_37 C hres n i kk m hk h)
  have h := s_neg q37 h
  by_cases q38 : z = 38
  · have h := s_pos q38 h
    exact l_tabIn C (off := 2158) (tgt := 2197) dL_law_39 (by rw [q38]; decide) (by rw [q38]; decide) (by rw [q38]; rfl) (by decide) (c_law_38 C hres n i kk m hk h)
  have h := s_neg q38 h
  by_cases q39 : z = 39
  · have h := s_pos q39 h
    exact l_tabIn C (off := 2226) (tgt := 2265) dL_law_39 (by rw [q39]; decide) (by rw [q39]; decide) (by rw [q39]; rfl) (by decide) (c_law_39 C hres n i kk m hk h)
  have h := s_neg q39 h
  by_cases q40 : z = 40
  · have h := s_pos q40 h
    exact l_tabIn C (off := 2306) (tgt := 2345) dL_law_39 (by rw [q40]; decide) (by rw [q40]; decide) (by rw [q40]; rfl) (by decide) (c_law_40 C hres n i kk m hk h)
  have h := s_neg q40 h
  by_cases q41 : z = 41
  · have h := s_pos q41 h
    exact l_tabIn C (off := 2362) (tgt := 2401) dL_law_39 (by rw [q41]; decide) (by rw [q41]; decide) (by rw [q41]; rfl) (by decide) (c_law_41 C hres n i kk m hk h)
  have h := s_neg q41 h
  by_cases q42 : z = 42
  · have h := s_pos q42 h
    exact l_tabIn C (off := 2425) (tgt := 2464) dL_law_39 (by rw [q42]; decide) (by rw [q42]; decide) (by rw [q42]; rfl) (by decide) (c_law_42 C hres n i kk m hk h)
  have h := s_neg q42 h
  by_cases q43 : z = 43
  · have h := s_pos q43 h
    exact l_tabIn C (off := 2438) (tgt := 2477) dL_law_39 (by rw [q43]; decide) (by rw [q43]; decide) (by rw [q43]; rfl) (by decide) (c_law_43 C hres n i kk m hk h)
  have h := s_neg q43 h
  by_cases q44 : z = 44
  · have h := s_pos q44 h
    exact l_tabIn C (off := 2506) (tgt := 2545) dL_law_39 (by rw [q44]; decide) (by rw [q44]; decide) (by rw [q44]; rfl) (by decide) (c_law_44 C hres n i kk m hk h)
  have h := s_neg q44 h
  refine l_tabOut C (tgt := 2601) dL_law_39 (by have z0 := lv_neT q0 (a := 0) rfl; have z1 := lv_neT q1 (a := 1) rfl; have z2 := lv_neT q2 (a := 2) rfl; have z3 := lv_neT q3 (a := 3) rfl; have z4 := lv_neT q4 (a := 4) rfl; have z5 := lv_neT q5 (a := 5) rfl; have z6 := lv_neT q6 (a := 6) rfl; have z7 := lv_neT q7 (a := 7) rfl; have z8 := lv_neT q8 (a := 8) rfl; have z9 := lv_neT q9 (a := 9) rfl; have z10 := lv_neT q10 (a := 10) rfl; have z11 := lv_neT q11 (a := 11) rfl; have z12 := lv_neT q12 (a := 12) rfl; have z13 := lv_neT q13 (a := 13) rfl; have z14 := lv_neT q14 (a := 14) rfl; have z15 := lv_neT q15 (a := 15) rfl; have z16 := lv_neT q16 (a := 16) rfl; have z17 := lv_neT q17 (a := 17) rfl; have z18 := lv_neT q18 (a := 18) rfl; have z19 := lv_neT q19 (a := 19) rfl; have z20 := lv_neT q20 (a := 20) rfl; have z21 := lv_neT q21 (a := 21) rfl; have z22 := lv_neT q22 (a := 22) rfl; have z23 := lv_neT q23 (a := 23) rfl; have z24 := lv_neT q24 (a := 24) rfl; have z25 := lv_neT q25 (a := 25) rfl; have z26 := lv_neT q26 (a := 26) rfl; have z27 := lv_neT q27 (a := 27) rfl; have z28 := lv_neT q28 (a := 28) rfl; have z29 := lv_neT q29 (a := 29) rfl; have z30 := lv_neT q30 (a := 30) rfl; have z31 := lv_neT q31 (a := 31) rfl; have z32 := lv_neT q32 (a := 32) rfl; have z33 := lv_neT q33 (a := 33) rfl; have z34 := lv_neT q34 (a := 34) rfl; have z35 := lv_neT q35 (a := 35) rfl; have z36 := lv_neT q36 (a := 36) rfl; have z37 := lv_neT q37 (a := 37) rfl; have z38 := lv_neT q38 (a := 38) rfl; have z39 := lv_neT q39 (a := 39) rfl; have z40 := lv_neT q40 (a := 40) rfl; have z41 := lv_neT q41 (a := 41) rfl; have z42 := lv_neT q42 (a := 42) rfl; have z43 := lv_neT q43 (a := 43) rfl; have z44 := lv_neT q44 (a := 44) rfl; omega) (by decide) ?_
  exact l_less C (b' := (16 * n + 0)) (by omega) (hk m h)
noncomputable def f_law_L (xs : Nat → Int32) (L : Nat) : Nat → Int32 → sM → Option (sR Int32)
  | 0, _, _ => none
  | n + 1, i, m => if nI L - 4 < i then some (.inl 1, m) else s_ix i L fun j => f_law_sw xs L (xs j &&& 63) i (fun m' => f_law_L xs L n (i + 4) m') m
set_option maxRecDepth 20000 in
theorem c_law_L {ad : Nat → Nat} {xs : Nat → Int32} {L scr : Nat} {res : sR Int32} {V : sV} {m9 : sM} (C : sCL ad xs L scr RL cL_law 7 wsL_law res V) (hres : res = (.inl 1, m9)) : ∀ (n : Nat) (i : Int32) (m : sM), f_law_L xs L n i m = some res → V (16 * n) 23 [(0, .ref scr), (1, .ref (ad 0)), (2, .ref (ad 110)), (3, .ref (ad 109)), (4, .int i)] [] m := by
  intro n
  induction n with
  | zero => intro i m h; rw [f_law_L] at h; cases h
  | succ n ih =>
    intro i m h
    rw [f_law_L] at h
    refine l_iload C dL_law_23 4 rfl ?_
    refine l_aload_n C dL_law_25 rfl 0 rfl ?_
    refine l_alen C dL_law_26 ?_
    refine l_iconst C (v := 4) dL_law_27 (by decide) ?_
    refine l_isub C dL_law_28 ?_
    refine l_icmp_gt C (tgt := 2607) dL_law_29 (by decide) h (fun _ h => ?_) (fun _ h => ?_)
    · refine l_iconst C (v := 1) dL_law_2607 (by decide) ?_
      exact l_iret C rfl dL_law_2608 h hres
    · refine l_aload_n C dL_law_32 rfl 0 rfl ?_
      refine l_iload C dL_law_33 4 rfl ?_
      refine l_iald C dL_law_35 h (fun j _ h => ?_)
      refine l_bipush C (v := 63) dL_law_36 (by decide) ?_
      refine l_iand C dL_law_38 ?_
      refine c_law_sw C hres n (xs j &&& 63) i _ m (fun m' h => ?_) h
      refine l_iinc C (v := i + 4) dL_law_2601 4 rfl rfl (by decide) (show _ = [(4, .int (i + 4)), (0, .ref scr), (1, .ref (ad 0)), (2, .ref (ad 110)), (3, .ref (ad 109))] from rfl) ?_
      refine l_goto C (tgt := 23) dL_law_2604 (by decide) ?_
      refine l_sub C [1, 2, 3, 4, 0] (show _ = [(0, .ref scr), (1, .ref (ad 0)), (2, .ref (ad 110)), (3, .ref (ad 109)), (4, .int (i + 4))] from rfl) ?_
      exact ih (i + 4) m' h
