noncomputable def f_law_0 (xs : Nat → Int32) (L : Nat) (i : Int32) (kk : sM → Option (sR Int32)) (m : sM) : Option (sR Int32) :=
  s_bf 0 109 (f_X9_format m) m fun r1 m2 => s_bf 110 29 (f_X10_format m2) m2 fun r3 m4 => if r1 = r3 then (kk  m4) else (some (.inl 0, m4))
set_option maxRecDepth 20000 in
set_option maxHeartbeats 4000000 in
theorem c_law_0 {ad : Nat → Nat} {xs : Nat → Int32} {L scr : Nat} {res : sR Int32} {V : sV} {m9 : sM} (C : sCL ad xs L scr RL cL_law 7 wsL_law res V) (hres : res = (.inl 1, m9)) (n : Nat) (i : Int32) (kk : sM → Option (sR Int32)) (m : sM) (hk : ∀ m, kk m = some res → V (16 * n + 0) 2601 [(0, .ref scr), (1, .ref (ad 0)), (2, .ref (ad 110)), (3, .ref (ad 109)), (4, .int i)] [] m) (h : f_law_0 xs L i kk m = some res) : V (16 * n + 16) 232 [(0, .ref scr), (1, .ref (ad 0)), (2, .ref (ad 110)), (3, .ref (ad 109)), (4, .int i)] [] m := by
  unfold f_law_0 at h
  refine l_aload_n C dL_law_232 rfl 1 rfl ?_
  refine l_callV C (c_X9_format 109 (by omega)) (by decide) (As := []) (nn := 0) (stk := [.ref (ad 0)]) (ci := 9) dL_law_233 gL_law_X9_format ⟨rfl, by decide, by decide, by decide +kernel⟩ (by omega) la_0 rfl rfl rfl (by decide) rfl rfl (Nat.le_of_ble_eq_true rfl) (by omega) h (fun r1 m2 h => ?_)
  show V (16 * n + 16) 236 [(0, .ref scr), (1, .ref (ad 0)), (2, .ref (ad 110)), (3, .ref (ad 109)), (4, .int i)] [.int r1] m2
  refine l_aload_n C dL_law_236 rfl 2 rfl ?_
  refine l_callV C (c_X10_format 29 (by omega)) (by decide) (As := []) (nn := 0) (stk := [.ref (ad 110), .int r1]) (ci := 10) dL_law_237 gL_law_X10_format ⟨rfl, by decide, by decide, by decide +kernel⟩ (by omega) la_110 rfl rfl rfl (by decide) rfl rfl (Nat.le_of_ble_eq_true rfl) (by omega) h (fun r3 m4 h => ?_)
  show V (16 * n + 16) 240 [(0, .ref scr), (1, .ref (ad 0)), (2, .ref (ad 110)), (3, .ref (ad 109)), (4, .int i)] [.int r3, .int r1] m4
  refine l_icmp_eq C (tgt := 2601) dL_law_240 (by decide) h (fun _ h => ?_) (fun _ h => ?_)
  · skip
    refine l_less C (b' := (16 * n + 0)) (by omega) ?_
    exact hk m4 h
  · skip
    refine l_iconst C (v := 0) dL_law_243 (by decide) ?_
    exact l_iret C rfl dL_law_244 h hres
noncomputable def f_law_1 (xs : Nat → Int32) (L : Nat) (i : Int32) (kk : sM → Option (sR Int32)) (m : sM) : Option (sR Int32) :=
  s_bf 0 110 (f_L_begin m) m fun r5 m6 => s_bf 110 29 (f_X10_begin m6) m6 fun r7 m8 => s_bf 110 29 (f_X10_thrown m8) m8 fun r9 m10 => if r9 = r5 then (s_jn (kk  m10) fun k286 => if r5 = 0 then (s_ix 0 1 fun j11 => if (lg_cmp (m10.2 109 j11) (Int32.toInt64 r7)) = 0 then (k286) else (some (.inl 0, m10))) else (k286)) else (some (.inl 0, m10))
set_option maxRecDepth 20000 in
set_option maxHeartbeats 4000000 in
theorem c_law_1 {ad : Nat → Nat} {xs : Nat → Int32} {L scr : Nat} {res : sR Int32} {V : sV} {m9 : sM} (C : sCL ad xs L scr RL cL_law 7 wsL_law res V) (hres : res = (.inl 1, m9)) (n : Nat) (i : Int32) (kk : sM → Option (sR Int32)) (m : sM) (hk : ∀ m, kk m = some res → V (16 * n + 0) 2601 [(0, .ref scr), (1, .ref (ad 0)), (2, .ref (ad 110)), (3, .ref (ad 109)), (4, .int i)] [] m) (h : f_law_1 xs L i kk m = some res) : V (16 * n + 16) 245 [(0, .ref scr), (1, .ref (ad 0)), (2, .ref (ad 110)), (3, .ref (ad 109)), (4, .int i)] [] m := by
  unfold f_law_1 at h
  refine l_aload_n C dL_law_245 rfl 1 rfl ?_
  refine l_aload_n C dL_law_246 rfl 3 rfl ?_
  refine l_callS C c_L_begin (by decide) (As := [.ref (ad 0), .ref (ad 109)]) (nn := 2) (stk := [.ref (ad 109), .ref (ad 0)]) dL_law_247 gL_law_L_begin ⟨by decide, by decide, by decide +kernel⟩ rfl rfl (by decide) rfl rfl (Nat.le_of_ble_eq_true rfl) (by omega) h (fun r5 m6 h => ?_)
  refine l_less C (b' := (16 * n + 14)) (by omega) ?_
  show V (16 * n + 14) 250 [(0, .ref scr), (1, .ref (ad 0)), (2, .ref (ad 110)), (3, .ref (ad 109)), (4, .int i)] [.int r5] m6
  refine l_istore C dL_law_250 (by decide) (show _ = [(5, .int r5), (0, .ref scr), (1, .ref (ad 0)), (2, .ref (ad 110)), (3, .ref (ad 109)), (4, .int i)] from rfl) ?_
  refine l_aload_n C dL_law_252 rfl 3 rfl ?_
  refine l_callV C (c_X10_begin 29 (by omega)) (by decide) (As := []) (nn := 0) (stk := [.ref (ad 110)]) (ci := 10) dL_law_253 gL_law_X10_begin ⟨rfl, by decide, by decide, by decide +kernel⟩ (by omega) la_110 rfl rfl rfl (by decide) rfl rfl (Nat.le_of_ble_eq_true rfl) (by omega) h (fun r7 m8 h => ?_)
  show V (16 * n + 14) 256 [(5, .int r5), (0, .ref scr), (1, .ref (ad 0)), (2, .ref (ad 110)), (3, .ref (ad 109)), (4, .int i)] [.int r7] m8
  refine l_istore C dL_law_256 (by decide) (show _ = [(6, .int r7), (5, .int r5), (0, .ref scr), (1, .ref (ad 0)), (2, .ref (ad 110)), (3, .ref (ad 109)), (4, .int i)] from rfl) ?_
  refine l_aload_n C dL_law_258 rfl 4 rfl ?_
  refine l_callV C (c_X10_thrown 29 (by omega)) (by decide) (As := []) (nn := 0) (stk := [.ref (ad 110)]) (ci := 10) dL_law_259 gL_law_X10_thrown ⟨rfl, by decide, by decide, by decide +kernel⟩ (by omega) la_110 rfl rfl rfl (by decide) rfl rfl (Nat.le_of_ble_eq_true rfl) (by omega) h (fun r9 m10 h => ?_)
  show V (16 * n + 14) 262 [(6, .int r7), (5, .int r5), (0, .ref scr), (1, .ref (ad 0)), (2, .ref (ad 110)), (3, .ref (ad 109)), (4, .int i)] [.int r9] m10
  refine l_iload C dL_law_262 1 rfl ?_
  refine l_icmp_eq C (tgt := 269) dL_law_264 (by decide) h (fun _ h => ?_) (fun _ h => ?_)
  · skip
    refine l_iload C dL_law_269 1 rfl ?_
    refine s_join h (fun k286 => k286  = some res → V (16 * n + 14) 286 [(0, .ref scr), (1, .ref (ad 0)), (2, .ref (ad 110)), (3, .ref (ad 109)), (4, .int i)] [] m10) ?_ (fun k286 hk286 h => ?_)
    · intro  h
      refine l_goto C (tgt := 2601) dL_law_286 (by decide) ?_
      refine l_less C (b' := (16 * n + 0)) (by omega) ?_
      exact hk m10 h
    refine l_if_ne C (tgt := 286) dL_law_271 (by decide) h (fun _ h => ?_) (fun _ h => ?_)
    · skip
      refine l_aload_n C dL_law_274 rfl 5 rfl ?_
      refine l_iconst C (v := 0) dL_law_275 (by decide) ?_
      refine l_lald C dL_law_276 (by omega) la_109 h (fun j11 _ h => ?_)
      refine l_iload C dL_law_277 0 rfl ?_
      refine l_i2l C dL_law_279 ?_
      refine l_lcmp C dL_law_280 ?_
      refine l_if_eq C (tgt := 286) dL_law_281 (by decide) h (fun _ h => ?_) (fun _ h => ?_)
      · skip
        refine l_sub C [2, 3, 4, 5, 6] (show _ = [(0, .ref scr), (1, .ref (ad 0)), (2, .ref (ad 110)), (3, .ref (ad 109)), (4, .int i)] from rfl) ?_
        exact hk286 h
      · skip
        refine l_iconst C (v := 0) dL_law_284 (by decide) ?_
        exact l_iret C rfl dL_law_285 h hres
    · skip
      refine l_sub C [2, 3, 4, 5, 6] (show _ = [(0, .ref scr), (1, .ref (ad 0)), (2, .ref (ad 110)), (3, .ref (ad 109)), (4, .int i)] from rfl) ?_
      exact hk286 h
  · skip
    refine l_iconst C (v := 0) dL_law_267 (by decide) ?_
    exact l_iret C rfl dL_law_268 h hres
noncomputable def f_law_2 (xs : Nat → Int32) (L : Nat) (i : Int32) (kk : sM → Option (sR Int32)) (m : sM) : Option (sR Int32) :=
  s_ix (i + 1) L fun j12 => s_ix (i + 2) L fun j13 => s_ix (i + 3) L fun j14 => s_bf 0 110 (f_L_put (xs j12) (xs j13) (xs j14) m) m fun r15 m16 => s_ix (i + 1) L fun j17 => s_ix (i + 2) L fun j18 => s_ix (i + 3) L fun j19 => s_bf 110 29 (f_X10_put (xs j17) (xs j18) (xs j19) m16) m16 fun r20 m21 => s_bf 110 29 (f_X10_thrown m21) m21 fun r22 m23 => if r22 = r15 then (s_jn (kk  m23) fun k373 => if r15 = 0 then (s_ix 0 1 fun j24 => s_jn (fun (s0_367 : Int64) => if (lg_cmp (m23.2 109 j24) s0_367) = 0 then (k373) else (some (.inl 0, m23))) fun k367 => if r20 = 0 then (k367 0) else (k367 1)) else (k373)) else (some (.inl 0, m23))
set_option maxRecDepth 20000 in
set_option maxHeartbeats 4000000 in
theorem c_law_2 {ad : Nat → Nat} {xs : Nat → Int32} {L scr : Nat} {res : sR Int32} {V : sV} {m9 : sM} (C : sCL ad xs L scr RL cL_law 7 wsL_law res V) (hres : res = (.inl 1, m9)) (n : Nat) (i : Int32) (kk : sM → Option (sR Int32)) (m : sM) (hk : ∀ m, kk m = some res → V (16 * n + 0) 2601 [(0, .ref scr), (1, .ref (ad 0)), (2, .ref (ad 110)), (3, .ref (ad 109)), (4, .int i)] [] m) (h : f_law_2 xs L i kk m = some res) : V (16 * n + 16) 289 [(0, .ref scr), (1, .ref (ad 0)), (2, .ref (ad 110)), (3, .ref (ad 109)), (4, .int i)] [] m := by
  unfold f_law_2 at h
  refine l_aload_n C dL_law_289 rfl 1 rfl ?_
  refine l_aload_n C dL_law_290 rfl 0 rfl ?_
  refine l_iload C dL_law_291 4 rfl ?_
  refine l_iconst C (v := 1) dL_law_293 (by decide) ?_
  refine l_iadd C dL_law_294 ?_
  refine l_iald C dL_law_295 h (fun j12 _ h => ?_)
  refine l_aload_n C dL_law_296 rfl 0 rfl ?_
  refine l_iload C dL_law_297 4 rfl ?_
  refine l_iconst C (v := 2) dL_law_299 (by decide) ?_
  refine l_iadd C dL_law_300 ?_
  refine l_iald C dL_law_301 h (fun j13 _ h => ?_)
  refine l_aload_n C dL_law_302 rfl 0 rfl ?_
  refine l_iload C dL_law_303 4 rfl ?_
  refine l_iconst C (v := 3) dL_law_305 (by decide) ?_
  refine l_iadd C dL_law_306 ?_
  refine l_iald C dL_law_307 h (fun j14 _ h => ?_)
  refine l_aload_n C dL_law_308 rfl 3 rfl ?_
  refine l_callS C (c_L_put (xs j12) (xs j13) (xs j14)) (by decide) (As := [.ref (ad 0), .int (xs j12), .int (xs j13), .int (xs j14), .ref (ad 109)]) (nn := 5) (stk := [.ref (ad 109), .int (xs j14), .int (xs j13), .int (xs j12), .ref (ad 0)]) dL_law_309 gL_law_L_put ⟨by decide, by decide, by decide +kernel⟩ rfl rfl (by decide) rfl rfl (Nat.le_of_ble_eq_true rfl) (by omega) h (fun r15 m16 h => ?_)
  refine l_less C (b' := (16 * n + 13)) (by omega) ?_
  show V (16 * n + 13) 312 [(0, .ref scr), (1, .ref (ad 0)), (2, .ref (ad 110)), (3, .ref (ad 109)), (4, .int i)] [.int r15] m16
  refine l_istore C dL_law_312 (by decide) (show _ = [(5, .int r15), (0, .ref scr), (1, .ref (ad 0)), (2, .ref (ad 110)), (3, .ref (ad 109)), (4, .int i)] from rfl) ?_
  refine l_aload_n C dL_law_314 rfl 3 rfl ?_
  refine l_aload_n C dL_law_315 rfl 1 rfl ?_
  refine l_iload C dL_law_316 5 rfl ?_
  refine l_iconst C (v := 1) dL_law_318 (by decide) ?_
  refine l_iadd C dL_law_319 ?_
  refine l_iald C dL_law_320 h (fun j17 _ h => ?_)
  refine l_aload_n C dL_law_321 rfl 1 rfl ?_
  refine l_iload C dL_law_322 5 rfl ?_
  refine l_iconst C (v := 2) dL_law_324 (by decide) ?_
  refine l_iadd C dL_law_325 ?_
  refine l_iald C dL_law_326 h (fun j18 _ h => ?_)
  refine l_aload_n C dL_law_327 rfl 1 rfl ?_
  refine l_iload C dL_law_328 5 rfl ?_
  refine l_iconst C (v := 3) dL_law_330 (by decide) ?_
  refine l_iadd C dL_law_331 ?_
  refine l_iald C dL_law_332 h (fun j19 _ h => ?_)
  refine l_callV C (c_X10_put 29 (by omega) (xs j17) (xs j18) (xs j19)) (by decide) (As := [.int (xs j17), .int (xs j18), .int (xs j19)]) (nn := 3) (stk := [.int (xs j19), .int (xs j18), .int (xs j17), .ref (ad 110)]) (ci := 10) dL_law_333 gL_law_X10_put ⟨rfl, by decide, by decide, by decide +kernel⟩ (by omega) la_110 rfl rfl rfl (by decide) rfl rfl (Nat.le_of_ble_eq_true rfl) (by omega) h (fun r20 m21 h => ?_)
  show V (16 * n + 13) 336 [(5, .int r15), (0, .ref scr), (1, .ref (ad 0)), (2, .ref (ad 110)), (3, .ref (ad 109)), (4, .int i)] [.int r20] m21
  refine l_istore C dL_law_336 (by decide) (show _ = [(6, .int r20), (5, .int r15), (0, .ref scr), (1, .ref (ad 0)), (2, .ref (ad 110)), (3, .ref (ad 109)), (4, .int i)] from rfl) ?_
  refine l_aload_n C dL_law_338 rfl 4 rfl ?_
  refine l_callV C (c_X10_thrown 29 (by omega)) (by decide) (As := []) (nn := 0) (stk := [.ref (ad 110)]) (ci := 10) dL_law_339 gL_law_X10_thrown ⟨rfl, by decide, by decide, by decide +kernel⟩ (by omega) la_110 rfl rfl rfl (by decide) rfl rfl (Nat.le_of_ble_eq_true rfl) (by omega) h (fun r22 m23 h => ?_)
  show V (16 * n + 13) 342 [(6, .int r20), (5, .int r15), (0, .ref scr), (1, .ref (ad 0)), (2, .ref (ad 110)), (3, .ref (ad 109)), (4, .int i)] [.int r22] m23
  refine l_iload C dL_law_342 1 rfl ?_
  refine l_icmp_eq C (tgt := 349) dL_law_344 (by decide) h (fun _ h => ?_) (fun _ h => ?_)
  · skip
    refine l_iload C dL_law_349 1 rfl ?_
    refine s_join h (fun k373 => k373  = some res → V (16 * n + 13) 373 [(0, .ref scr), (1, .ref (ad 0)), (2, .ref (ad 110)), (3, .ref (ad 109)), (4, .int i)] [] m23) ?_ (fun k373 hk373 h => ?_)
    · intro  h
      refine l_goto C (tgt := 2601) dL_law_373 (by decide) ?_
      refine l_less C (b' := (16 * n + 0)) (by omega) ?_
      exact hk m23 h
    refine l_if_ne C (tgt := 373) dL_law_351 (by decide) h (fun _ h => ?_) (fun _ h => ?_)
    · skip
      refine l_aload_n C dL_law_354 rfl 5 rfl ?_
      refine l_iconst C (v := 0) dL_law_355 (by decide) ?_
      refine l_lald C dL_law_356 (by omega) la_109 h (fun j24 _ h => ?_)
      refine l_iload C dL_law_357 0 rfl ?_
      refine s_join h (fun k367 => ∀ (s0_367 : Int64), k367 s0_367 = some res → V (16 * n + 13) 367 [(0, .ref scr), (1, .ref (ad 0)), (2, .ref (ad 110)), (3, .ref (ad 109)), (4, .int i)] [.long s0_367, .long (m23.2 109 j24)] m23) ?_ (fun k367 hk367 h => ?_)
      · intro s0_367 h
        refine l_lcmp C dL_law_367 ?_
        refine l_if_eq C (tgt := 373) dL_law_368 (by decide) h (fun _ h => ?_) (fun _ h => ?_)
        · skip
          exact hk373 h
        · skip
          refine l_iconst C (v := 0) dL_law_371 (by decide) ?_
          exact l_iret C rfl dL_law_372 h hres
      refine l_if_eq C (tgt := 366) dL_law_359 (by decide) h (fun _ h => ?_) (fun _ h => ?_)
      · skip
        refine l_lconst C (v := 0) dL_law_366 (by decide) ?_
        refine l_sub C [2, 3, 4, 5, 6] (show _ = [(0, .ref scr), (1, .ref (ad 0)), (2, .ref (ad 110)), (3, .ref (ad 109)), (4, .int i)] from rfl) ?_
        exact hk367 0 h
      · skip
        refine l_lconst C (v := 1) dL_law_362 (by decide) ?_
        refine l_goto C (tgt := 367) dL_law_363 (by decide) ?_
        refine l_sub C [2, 3, 4, 5, 6] (show _ = [(0, .ref scr), (1, .ref (ad 0)), (2, .ref (ad 110)), (3, .ref (ad 109)), (4, .int i)] from rfl) ?_
        exact hk367 1 h
    · skip
      refine l_sub C [2, 3, 4, 5, 6] (show _ = [(0, .ref scr), (1, .ref (ad 0)), (2, .ref (ad 110)), (3, .ref (ad 109)), (4, .int i)] from rfl) ?_
      exact hk373 h
  · skip
    refine l_iconst C (v := 0) dL_law_347 (by decide) ?_
    exact l_iret C rfl dL_law_348 h hres
noncomputable def f_law_3 (xs : Nat → Int32) (L : Nat) (i : Int32) (kk : sM → Option (sR Int32)) (m : sM) : Option (sR Int32) :=
  s_ix (i + 1) L fun j25 => s_ix (i + 2) L fun j26 => s_bf 0 110 (f_L_remove (xs j25) (xs j26) m) m fun r27 m28 => s_ix (i + 1) L fun j29 => s_ix (i + 2) L fun j30 => s_bf 110 29 (f_X10_remove (xs j29) (xs j30) m28) m28 fun r31 m32 => s_bf 110 29 (f_X10_thrown m32) m32 fun r33 m34 => if r33 = r27 then (s_jn (kk  m34) fun k441 => if r27 = 0 then (s_ix 0 1 fun j35 => if (lg_cmp (m34.2 109 j35) (Int32.toInt64 r31)) = 0 then (k441) else (some (.inl 0, m34))) else (k441)) else (some (.inl 0, m34))
set_option maxRecDepth 20000 in
set_option maxHeartbeats 4000000 in
theorem c_law_3 {ad : Nat → Nat} {xs : Nat → Int32} {L scr : Nat} {res : sR Int32} {V : sV} {m9 : sM} (C : sCL ad xs L scr RL cL_law 7 wsL_law res V) (hres : res = (.inl 1, m9)) (n : Nat) (i : Int32) (kk : sM → Option (sR Int32)) (m : sM) (hk : ∀ m, kk m = some res → V (16 * n + 0) 2601 [(0, .ref scr), (1, .ref (ad 0)), (2, .ref (ad 110)), (3, .ref (ad 109)), (4, .int i)] [] m) (h : f_law_3 xs L i kk m = some res) : V (16 * n + 16) 376 [(0, .ref scr), (1, .ref (ad 0)), (2, .ref (ad 110)), (3, .ref (ad 109)), (4, .int i)] [] m := by
  unfold f_law_3 at h
  refine l_aload_n C dL_law_376 rfl 1 rfl ?_
  refine l_aload_n C dL_law_377 rfl 0 rfl ?_
  refine l_iload C dL_law_378 4 rfl ?_
  refine l_iconst C (v := 1) dL_law_380 (by decide) ?_
  refine l_iadd C dL_law_381 ?_
  refine l_iald C dL_law_382 h (fun j25 _ h => ?_)
  refine l_aload_n C dL_law_383 rfl 0 rfl ?_
  refine l_iload C dL_law_384 4 rfl ?_
  refine l_iconst C (v := 2) dL_law_386 (by decide) ?_
  refine l_iadd C dL_law_387 ?_
  refine l_iald C dL_law_388 h (fun j26 _ h => ?_)
  refine l_aload_n C dL_law_389 rfl 3 rfl ?_
  refine l_callS C (c_L_remove (xs j25) (xs j26)) (by decide) (As := [.ref (ad 0), .int (xs j25), .int (xs j26), .ref (ad 109)]) (nn := 4) (stk := [.ref (ad 109), .int (xs j26), .int (xs j25), .ref (ad 0)]) dL_law_390 gL_law_L_remove ⟨by decide, by decide, by decide +kernel⟩ rfl rfl (by decide) rfl rfl (Nat.le_of_ble_eq_true rfl) (by omega) h (fun r27 m28 h => ?_)
  refine l_less C (b' := (16 * n + 12)) (by omega) ?_
  show V (16 * n + 12) 393 [(0, .ref scr), (1, .ref (ad 0)), (2, .ref (ad 110)), (3, .ref (ad 109)), (4, .int i)] [.int r27] m28
  refine l_istore C dL_law_393 (by decide) (show _ = [(5, .int r27), (0, .ref scr), (1, .ref (ad 0)), (2, .ref (ad 110)), (3, .ref (ad 109)), (4, .int i)] from rfl) ?_
  refine l_aload_n C dL_law_395 rfl 3 rfl ?_
  refine l_aload_n C dL_law_396 rfl 1 rfl ?_
  refine l_iload C dL_law_397 5 rfl ?_
  refine l_iconst C (v := 1) dL_law_399 (by decide) ?_
  refine l_iadd C dL_law_400 ?_
  refine l_iald C dL_law_401 h (fun j29 _ h => ?_)
  refine l_aload_n C dL_law_402 rfl 1 rfl ?_
  refine l_iload C dL_law_403 5 rfl ?_
  refine l_iconst C (v := 2) dL_law_405 (by decide) ?_
  refine l_iadd C dL_law_406 ?_
  refine l_iald C dL_law_407 h (fun j30 _ h => ?_)
  refine l_callV C (c_X10_remove 29 (by omega) (xs j29) (xs j30)) (by decide) (As := [.int (xs j29), .int (xs j30)]) (nn := 2) (stk := [.int (xs j30), .int (xs j29), .ref (ad 110)]) (ci := 10) dL_law_408 gL_law_X10_remove ⟨rfl, by decide, by decide, by decide +kernel⟩ (by omega) la_110 rfl rfl rfl (by decide) rfl rfl (Nat.le_of_ble_eq_true rfl) (by omega) h (fun r31 m32 h => ?_)
  show V (16 * n + 12) 411 [(5, .int r27), (0, .ref scr), (1, .ref (ad 0)), (2, .ref (ad 110)), (3, .ref (ad 109)), (4, .int i)] [.int r31] m32
  refine l_istore C dL_law_411 (by decide) (show _ = [(6, .int r31), (5, .int r27), (0, .ref scr), (1, .ref (ad 0)), (2, .ref (ad 110)), (3, .ref (ad 109)), (4, .int i)] from rfl) ?_
  refine l_aload_n C dL_law_413 rfl 4 rfl ?_
  refine l_callV C (c_X10_thrown 29 (by omega)) (by decide) (As := []) (nn := 0) (stk := [.ref (ad 110)]) (ci := 10) dL_law_414 gL_law_X10_thrown ⟨rfl, by decide, by decide, by decide +kernel⟩ (by omega) la_110 rfl rfl rfl (by decide) rfl rfl (Nat.le_of_ble_eq_true rfl) (by omega) h (fun r33 m34 h => ?_)
  show V (16 * n + 12) 417 [(6, .int r31), (5, .int r27), (0, .ref scr), (1, .ref (ad 0)), (2, .ref (ad 110)), (3, .ref (ad 109)), (4, .int i)] [.int r33] m34
  refine l_iload C dL_law_417 1 rfl ?_
  refine l_icmp_eq C (tgt := 424) dL_law_419 (by decide) h (fun _ h => ?_) (fun _ h => ?_)
  · skip
    refine l_iload C dL_law_424 1 rfl ?_
    refine s_join h (fun k441 => k441  = some res → V (16 * n + 12) 441 [(0, .ref scr), (1, .ref (ad 0)), (2, .ref (ad 110)), (3, .ref (ad 109)), (4, .int i)] [] m34) ?_ (fun k441 hk441 h => ?_)
    · intro  h
      refine l_goto C (tgt := 2601) dL_law_441 (by decide) ?_
      refine l_less C (b' := (16 * n + 0)) (by omega) ?_
      exact hk m34 h
    refine l_if_ne C (tgt := 441) dL_law_426 (by decide) h (fun _ h => ?_) (fun _ h => ?_)
    · skip
      refine l_aload_n C dL_law_429 rfl 5 rfl ?_
      refine l_iconst C (v := 0) dL_law_430 (by decide) ?_
      refine l_lald C dL_law_431 (by omega) la_109 h (fun j35 _ h => ?_)
      refine l_iload C dL_law_432 0 rfl ?_
      refine l_i2l C dL_law_434 ?_
      refine l_lcmp C dL_law_435 ?_
      refine l_if_eq C (tgt := 441) dL_law_436 (by decide) h (fun _ h => ?_) (fun _ h => ?_)
      · skip
        refine l_sub C [2, 3, 4, 5, 6] (show _ = [(0, .ref scr), (1, .ref (ad 0)), (2, .ref (ad 110)), (3, .ref (ad 109)), (4, .int i)] from rfl) ?_
        exact hk441 h
      · skip
        refine l_iconst C (v := 0) dL_law_439 (by decide) ?_
        exact l_iret C rfl dL_law_440 h hres
    · skip
      refine l_sub C [2, 3, 4, 5, 6] (show _ = [(0, .ref scr), (1, .ref (ad 0)), (2, .ref (ad 110)), (3, .ref (ad 109)), (4, .int i)] from rfl) ?_
      exact hk441 h
  · skip
    refine l_iconst C (v := 0) dL_law_422 (by decide) ?_
    exact l_iret C rfl dL_law_423 h hres
noncomputable def f_law_4 (xs : Nat → Int32) (L : Nat) (i : Int32) (kk : sM → Option (sR Int32)) (m : sM) : Option (sR Int32) :=
  s_ix (i + 1) L fun j36 => s_ix (i + 2) L fun j37 => s_bf 0 110 (f_L_get (xs j36) (xs j37) m) m fun r38 m39 => s_ix (i + 1) L fun j40 => s_ix (i + 2) L fun j41 => s_bf 110 29 (f_X10_get (xs j40) (xs j41) m39) m39 fun r42 m43 => s_bf 110 29 (f_X10_thrown m43) m43 fun r44 m45 => if r44 = r38 then (s_jn (kk  m45) fun k509 => if r38 = 0 then (s_ix 0 1 fun j46 => if (lg_cmp (m45.2 109 j46) (Int32.toInt64 r42)) = 0 then (k509) else (some (.inl 0, m45))) else (k509)) else (some (.inl 0, m45))
set_option maxRecDepth 20000 in
set_option maxHeartbeats 4000000 in
theorem c_law_4 {ad : Nat → Nat} {xs : Nat → Int32} {L scr : Nat} {res : sR Int32} {V : sV} {m9 : sM} (C : sCL ad xs L scr RL cL_law 7 wsL_law res V) (hres : res = (.inl 1, m9)) (n : Nat) (i : Int32) (kk : sM → Option (sR Int32)) (m : sM) (hk : ∀ m, kk m = some res → V (16 * n + 0) 2601 [(0, .ref scr), (1, .ref (ad 0)), (2, .ref (ad 110)), (3, .ref (ad 109)), (4, .int i)] [] m) (h : f_law_4 xs L i kk m = some res) : V (16 * n + 16) 444 [(0, .ref scr), (1, .ref (ad 0)), (2, .ref (ad 110)), (3, .ref (ad 109)), (4, .int i)] [] m := by
  unfold f_law_4 at h
  refine l_aload_n C dL_law_444 rfl 1 rfl ?_
  refine l_aload_n C dL_law_445 rfl 0 rfl ?_
  refine l_iload C dL_law_446 4 rfl ?_
  refine l_iconst C (v := 1) dL_law_448 (by decide) ?_
  refine l_iadd C dL_law_449 ?_
  refine l_iald C dL_law_450 h (fun j36 _ h => ?_)
  refine l_aload_n C dL_law_451 rfl 0 rfl ?_
  refine l_iload C dL_law_452 4 rfl ?_
  refine l_iconst C (v := 2) dL_law_454 (by decide) ?_
  refine l_iadd C dL_law_455 ?_
  refine l_iald C dL_law_456 h (fun j37 _ h => ?_)
  refine l_aload_n C dL_law_457 rfl 3 rfl ?_
  refine l_callS C (c_L_get (xs j36) (xs j37)) (by decide) (As := [.ref (ad 0), .int (xs j36), .int (xs j37), .ref (ad 109)]) (nn := 4) (stk := [.ref (ad 109), .int (xs j37), .int (xs j36), .ref (ad 0)]) dL_law_458 gL_law_L_get ⟨by decide, by decide, by decide +kernel⟩ rfl rfl (by decide) rfl rfl (Nat.le_of_ble_eq_true rfl) (by omega) h (fun r38 m39 h => ?_)
  refine l_less C (b' := (16 * n + 12)) (by omega) ?_
  show V (16 * n + 12) 461 [(0, .ref scr), (1, .ref (ad 0)), (2, .ref (ad 110)), (3, .ref (ad 109)), (4, .int i)] [.int r38] m39
  refine l_istore C dL_law_461 (by decide) (show _ = [(5, .int r38), (0, .ref scr), (1, .ref (ad 0)), (2, .ref (ad 110)), (3, .ref (ad 109)), (4, .int i)] from rfl) ?_
  refine l_aload_n C dL_law_463 rfl 3 rfl ?_
  refine l_aload_n C dL_law_464 rfl 1 rfl ?_
  refine l_iload C dL_law_465 5 rfl ?_
  refine l_iconst C (v := 1) dL_law_467 (by decide) ?_
  refine l_iadd C dL_law_468 ?_
  refine l_iald C dL_law_469 h (fun j40 _ h => ?_)
  refine l_aload_n C dL_law_470 rfl 1 rfl ?_
  refine l_iload C dL_law_471 5 rfl ?_
  refine l_iconst C (v := 2) dL_law_473 (by decide) ?_
  refine l_iadd C dL_law_474 ?_
  refine l_iald C dL_law_475 h (fun j41 _ h => ?_)
  refine l_callV C (c_X10_get 29 (by omega) (xs j40) (xs j41)) (by decide) (As := [.int (xs j40), .int (xs j41)]) (nn := 2) (stk := [.int (xs j41), .int (xs j40), .ref (ad 110)]) (ci := 10) dL_law_476 gL_law_X10_get ⟨rfl, by decide, by decide, by decide +kernel⟩ (by omega) la_110 rfl rfl rfl (by decide) rfl rfl (Nat.le_of_ble_eq_true rfl) (by omega) h (fun r42 m43 h => ?_)
  show V (16 * n + 12) 479 [(5, .int r38), (0, .ref scr), (1, .ref (ad 0)), (2, .ref (ad 110)), (3, .ref (ad 109)), (4, .int i)] [.int r42] m43
  refine l_istore C dL_law_479 (by decide) (show _ = [(6, .int r42), (5, .int r38), (0, .ref scr), (1, .ref (ad 0)), (2, .ref (ad 110)), (3, .ref (ad 109)), (4, .int i)] from rfl) ?_
  refine l_aload_n C dL_law_481 rfl 4 rfl ?_
  refine l_callV C (c_X10_thrown 29 (by omega)) (by decide) (As := []) (nn := 0) (stk := [.ref (ad 110)]) (ci := 10) dL_law_482 gL_law_X10_thrown ⟨rfl, by decide, by decide, by decide +kernel⟩ (by omega) la_110 rfl rfl rfl (by decide) rfl rfl (Nat.le_of_ble_eq_true rfl) (by omega) h (fun r44 m45 h => ?_)
  show V (16 * n + 12) 485 [(6, .int r42), (5, .int r38), (0, .ref scr), (1, .ref (ad 0)), (2, .ref (ad 110)), (3, .ref (ad 109)), (4, .int i)] [.int r44] m45
  refine l_iload C dL_law_485 1 rfl ?_
  refine l_icmp_eq C (tgt := 492) dL_law_487 (by decide) h (fun _ h => ?_) (fun _ h => ?_)
  · skip
    refine l_iload C dL_law_492 1 rfl ?_
    refine s_join h (fun k509 => k509  = some res → V (16 * n + 12) 509 [(0, .ref scr), (1, .ref (ad 0)), (2, .ref (ad 110)), (3, .ref (ad 109)), (4, .int i)] [] m45) ?_ (fun k509 hk509 h => ?_)
    · intro  h
      refine l_goto C (tgt := 2601) dL_law_509 (by decide) ?_
      refine l_less C (b' := (16 * n + 0)) (by omega) ?_
      exact hk m45 h
    refine l_if_ne C (tgt := 509) dL_law_494 (by decide) h (fun _ h => ?_) (fun _ h => ?_)
    · skip
      refine l_aload_n C dL_law_497 rfl 5 rfl ?_
      refine l_iconst C (v := 0) dL_law_498 (by decide) ?_
      refine l_lald C dL_law_499 (by omega) la_109 h (fun j46 _ h => ?_)
      refine l_iload C dL_law_500 0 rfl ?_
      refine l_i2l C dL_law_502 ?_
      refine l_lcmp C dL_law_503 ?_
      refine l_if_eq C (tgt := 509) dL_law_504 (by decide) h (fun _ h => ?_) (fun _ h => ?_)
      · skip
        refine l_sub C [2, 3, 4, 5, 6] (show _ = [(0, .ref scr), (1, .ref (ad 0)), (2, .ref (ad 110)), (3, .ref (ad 109)), (4, .int i)] from rfl) ?_
        exact hk509 h
      · skip
        refine l_iconst C (v := 0) dL_law_507 (by decide) ?_
        exact l_iret C rfl dL_law_508 h hres
    · skip
      refine l_sub C [2, 3, 4, 5, 6] (show _ = [(0, .ref scr), (1, .ref (ad 0)), (2, .ref (ad 110)), (3, .ref (ad 109)), (4, .int i)] from rfl) ?_
      exact hk509 h
  · skip
    refine l_iconst C (v := 0) dL_law_490 (by decide) ?_
    exact l_iret C rfl dL_law_491 h hres
noncomputable def f_law_5 (xs : Nat → Int32) (L : Nat) (i : Int32) (kk : sM → Option (sR Int32)) (m : sM) : Option (sR Int32) :=
  s_ix (i + 1) L fun j47 => s_bf 0 110 (f_L_changes (xs j47) m) m fun r48 m49 => s_ix (i + 1) L fun j50 => s_bf 110 29 (f_X10_changes (xs j50) m49) m49 fun r51 m52 => s_bf 110 29 (f_X10_thrown m52) m52 fun r53 m54 => if r53 = r48 then (s_jn (kk  m54) fun k565 => if r48 = 0 then (s_ix 0 1 fun j55 => if (lg_cmp (m54.2 109 j55) (Int32.toInt64 r51)) = 0 then (k565) else (some (.inl 0, m54))) else (k565)) else (some (.inl 0, m54))
set_option maxRecDepth 20000 in
set_option maxHeartbeats 4000000 in
theorem c_law_5 {ad : Nat → Nat} {xs : Nat → Int32} {L scr : Nat} {res : sR Int32} {V : sV} {m9 : sM} (C : sCL ad xs L scr RL cL_law 7 wsL_law res V) (hres : res = (.inl 1, m9)) (n : Nat) (i : Int32) (kk : sM → Option (sR Int32)) (m : sM) (hk : ∀ m, kk m = some res → V (16 * n + 0) 2601 [(0, .ref scr), (1, .ref (ad 0)), (2, .ref (ad 110)), (3, .ref (ad 109)), (4, .int i)] [] m) (h : f_law_5 xs L i kk m = some res) : V (16 * n + 16) 512 [(0, .ref scr), (1, .ref (ad 0)), (2, .ref (ad 110)), (3, .ref (ad 109)), (4, .int i)] [] m := by
  unfold f_law_5 at h
  refine l_aload_n C dL_law_512 rfl 1 rfl ?_
  refine l_aload_n C dL_law_513 rfl 0 rfl ?_
  refine l_iload C dL_law_514 4 rfl ?_
  refine l_iconst C (v := 1) dL_law_516 (by decide) ?_
  refine l_iadd C dL_law_517 ?_
  refine l_iald C dL_law_518 h (fun j47 _ h => ?_)
  refine l_aload_n C dL_law_519 rfl 3 rfl ?_
  refine l_callS C (c_L_changes (xs j47)) (by decide) (As := [.ref (ad 0), .int (xs j47), .ref (ad 109)]) (nn := 3) (stk := [.ref (ad 109), .int (xs j47), .ref (ad 0)]) dL_law_520 gL_law_L_changes ⟨by decide, by decide, by decide +kernel⟩ rfl rfl (by decide) rfl rfl (Nat.le_of_ble_eq_true rfl) (by omega) h (fun r48 m49 h => ?_)
  refine l_less C (b' := (16 * n + 15)) (by omega) ?_
  show V (16 * n + 15) 523 [(0, .ref scr), (1, .ref (ad 0)), (2, .ref (ad 110)), (3, .ref (ad 109)), (4, .int i)] [.int r48] m49
  refine l_istore C dL_law_523 (by decide) (show _ = [(5, .int r48), (0, .ref scr), (1, .ref (ad 0)), (2, .ref (ad 110)), (3, .ref (ad 109)), (4, .int i)] from rfl) ?_
  refine l_aload_n C dL_law_525 rfl 3 rfl ?_
  refine l_aload_n C dL_law_526 rfl 1 rfl ?_
  refine l_iload C dL_law_527 5 rfl ?_
  refine l_iconst C (v := 1) dL_law_529 (by decide) ?_
  refine l_iadd C dL_law_530 ?_
  refine l_iald C dL_law_531 h (fun j50 _ h => ?_)
  refine l_callV C (c_X10_changes 29 (by omega) (xs j50)) (by decide) (As := [.int (xs j50)]) (nn := 1) (stk := [.int (xs j50), .ref (ad 110)]) (ci := 10) dL_law_532 gL_law_X10_changes ⟨rfl, by decide, by decide, by decide +kernel⟩ (by omega) la_110 rfl rfl rfl (by decide) rfl rfl (Nat.le_of_ble_eq_true rfl) (by omega) h (fun r51 m52 h => ?_)
  show V (16 * n + 15) 535 [(5, .int r48), (0, .ref scr), (1, .ref (ad 0)), (2, .ref (ad 110)), (3, .ref (ad 109)), (4, .int i)] [.int r51] m52
  refine l_istore C dL_law_535 (by decide) (show _ = [(6, .int r51), (5, .int r48), (0, .ref scr), (1, .ref (ad 0)), (2, .ref (ad 110)), (3, .ref (ad 109)), (4, .int i)] from rfl) ?_
  refine l_aload_n C dL_law_537 rfl 4 rfl ?_
  refine l_callV C (c_X10_thrown 29 (by omega)) (by decide) (As := []) (nn := 0) (stk := [.ref (ad 110)]) (ci := 10) dL_law_538 gL_law_X10_thrown ⟨rfl, by decide, by decide, by decide +kernel⟩ (by omega) la_110 rfl rfl rfl (by decide) rfl rfl (Nat.le_of_ble_eq_true rfl) (by omega) h (fun r53 m54 h => ?_)
  show V (16 * n + 15) 541 [(6, .int r51), (5, .int r48), (0, .ref scr), (1, .ref (ad 0)), (2, .ref (ad 110)), (3, .ref (ad 109)), (4, .int i)] [.int r53] m54
  refine l_iload C dL_law_541 1 rfl ?_
  refine l_icmp_eq C (tgt := 548) dL_law_543 (by decide) h (fun _ h => ?_) (fun _ h => ?_)
  · skip
    refine l_iload C dL_law_548 1 rfl ?_
    refine s_join h (fun k565 => k565  = some res → V (16 * n + 15) 565 [(0, .ref scr), (1, .ref (ad 0)), (2, .ref (ad 110)), (3, .ref (ad 109)), (4, .int i)] [] m54) ?_ (fun k565 hk565 h => ?_)
    · intro  h
      refine l_goto C (tgt := 2601) dL_law_565 (by decide) ?_
      refine l_less C (b' := (16 * n + 0)) (by omega) ?_
      exact hk m54 h
    refine l_if_ne C (tgt := 565) dL_law_550 (by decide) h (fun _ h => ?_) (fun _ h => ?_)
    · skip
      refine l_aload_n C dL_law_553 rfl 5 rfl ?_
      refine l_iconst C (v := 0) dL_law_554 (by decide) ?_
      refine l_lald C dL_law_555 (by omega) la_109 h (fun j55 _ h => ?_)
      refine l_iload C dL_law_556 0 rfl ?_
      refine l_i2l C dL_law_558 ?_
      refine l_lcmp C dL_law_559 ?_
      refine l_if_eq C (tgt := 565) dL_law_560 (by decide) h (fun _ h => ?_) (fun _ h => ?_)
      · skip
        refine l_sub C [2, 3, 4, 5, 6] (show _ = [(0, .ref scr), (1, .ref (ad 0)), (2, .ref (ad 110)), (3, .ref (ad 109)), (4, .int i)] from rfl) ?_
        exact hk565 h
      · skip
        refine l_iconst C (v := 0) dL_law_563 (by decide) ?_
        exact l_iret C rfl dL_law_564 h hres
    · skip
      refine l_sub C [2, 3, 4, 5, 6] (show _ = [(0, .ref scr), (1, .ref (ad 0)), (2, .ref (ad 110)), (3, .ref (ad 109)), (4, .int i)] from rfl) ?_
      exact hk565 h
  · skip
    refine l_iconst C (v := 0) dL_law_546 (by decide) ?_
    exact l_iret C rfl dL_law_547 h hres
noncomputable def f_law_6 (xs : Nat → Int32) (L : Nat) (i : Int32) (kk : sM → Option (sR Int32)) (m : sM) : Option (sR Int32) :=
  s_ix (i + 1) L fun j56 => s_bf 0 110 (f_L_slotState (xs j56) m) m fun r57 m58 => s_ix (i + 1) L fun j59 => s_bf 110 29 (f_X10_slotState (xs j59) m58) m58 fun r60 m61 => s_bf 110 29 (f_X10_thrown m61) m61 fun r62 m63 => if r62 = r57 then (s_jn (kk  m63) fun k621 => if r57 = 0 then (s_ix 0 1 fun j64 => if (lg_cmp (m63.2 109 j64) (Int32.toInt64 r60)) = 0 then (k621) else (some (.inl 0, m63))) else (k621)) else (some (.inl 0, m63))
set_option maxRecDepth 20000 in
set_option maxHeartbeats 4000000 in
theorem c_law_6 {ad : Nat → Nat} {xs : Nat → Int32} {L scr : Nat} {res : sR Int32} {V : sV} {m9 : sM} (C : sCL ad xs L scr RL cL_law 7 wsL_law res V) (hres : res = (.inl 1, m9)) (n : Nat) (i : Int32) (kk : sM → Option (sR Int32)) (m : sM) (hk : ∀ m, kk m = some res → V (16 * n + 0) 2601 [(0, .ref scr), (1, .ref (ad 0)), (2, .ref (ad 110)), (3, .ref (ad 109)), (4, .int i)] [] m) (h : f_law_6 xs L i kk m = some res) : V (16 * n + 16) 568 [(0, .ref scr), (1, .ref (ad 0)), (2, .ref (ad 110)), (3, .ref (ad 109)), (4, .int i)] [] m := by
  unfold f_law_6 at h
  refine l_aload_n C dL_law_568 rfl 1 rfl ?_
  refine l_aload_n C dL_law_569 rfl 0 rfl ?_
  refine l_iload C dL_law_570 4 rfl ?_
  refine l_iconst C (v := 1) dL_law_572 (by decide) ?_
  refine l_iadd C dL_law_573 ?_
  refine l_iald C dL_law_574 h (fun j56 _ h => ?_)
  refine l_aload_n C dL_law_575 rfl 3 rfl ?_
  refine l_callS C (c_L_slotState (xs j56)) (by decide) (As := [.ref (ad 0), .int (xs j56), .ref (ad 109)]) (nn := 3) (stk := [.ref (ad 109), .int (xs j56), .ref (ad 0)]) dL_law_576 gL_law_L_slotState ⟨by decide, by decide, by decide +kernel⟩ rfl rfl (by decide) rfl rfl (Nat.le_of_ble_eq_true rfl) (by omega) h (fun r57 m58 h => ?_)
  refine l_less C (b' := (16 * n + 15)) (by omega) ?_
  show V (16 * n + 15) 579 [(0, .ref scr), (1, .ref (ad 0)), (2, .ref (ad 110)), (3, .ref (ad 109)), (4, .int i)] [.int r57] m58
  refine l_istore C dL_law_579 (by decide) (show _ = [(5, .int r57), (0, .ref scr), (1, .ref (ad 0)), (2, .ref (ad 110)), (3, .ref (ad 109)), (4, .int i)] from rfl) ?_
  refine l_aload_n C dL_law_581 rfl 3 rfl ?_
  refine l_aload_n C dL_law_582 rfl 1 rfl ?_
  refine l_iload C dL_law_583 5 rfl ?_
  refine l_iconst C (v := 1) dL_law_585 (by decide) ?_
  refine l_iadd C dL_law_586 ?_
  refine l_iald C dL_law_587 h (fun j59 _ h => ?_)
  refine l_callV C (c_X10_slotState 29 (by omega) (xs j59)) (by decide) (As := [.int (xs j59)]) (nn := 1) (stk := [.int (xs j59), .ref (ad 110)]) (ci := 10) dL_law_588 gL_law_X10_slotState ⟨rfl, by decide, by decide, by decide +kernel⟩ (by omega) la_110 rfl rfl rfl (by decide) rfl rfl (Nat.le_of_ble_eq_true rfl) (by omega) h (fun r60 m61 h => ?_)
  show V (16 * n + 15) 591 [(5, .int r57), (0, .ref scr), (1, .ref (ad 0)), (2, .ref (ad 110)), (3, .ref (ad 109)), (4, .int i)] [.int r60] m61
  refine l_istore C dL_law_591 (by decide) (show _ = [(6, .int r60), (5, .int r57), (0, .ref scr), (1, .ref (ad 0)), (2, .ref (ad 110)), (3, .ref (ad 109)), (4, .int i)] from rfl) ?_
  refine l_aload_n C dL_law_593 rfl 4 rfl ?_
  refine l_callV C (c_X10_thrown 29 (by omega)) (by decide) (As := []) (nn := 0) (stk := [.ref (ad 110)]) (ci := 10) dL_law_594 gL_law_X10_thrown ⟨rfl, by decide, by decide, by decide +kernel⟩ (by omega) la_110 rfl rfl rfl (by decide) rfl rfl (Nat.le_of_ble_eq_true rfl) (by omega) h (fun r62 m63 h => ?_)
  show V (16 * n + 15) 597 [(6, .int r60), (5, .int r57), (0, .ref scr), (1, .ref (ad 0)), (2, .ref (ad 110)), (3, .ref (ad 109)), (4, .int i)] [.int r62] m63
  refine l_iload C dL_law_597 1 rfl ?_
  refine l_icmp_eq C (tgt := 604) dL_law_599 (by decide) h (fun _ h => ?_) (fun _ h => ?_)
  · skip
    refine l_iload C dL_law_604 1 rfl ?_
    refine s_join h (fun k621 => k621  = some res → V (16 * n + 15) 621 [(0, .ref scr), (1, .ref (ad 0)), (2, .ref (ad 110)), (3, .ref (ad 109)), (4, .int i)] [] m63) ?_ (fun k621 hk621 h => ?_)
    · intro  h
      refine l_goto C (tgt := 2601) dL_law_621 (by decide) ?_
      refine l_less C (b' := (16 * n + 0)) (by omega) ?_
      exact hk m63 h
    refine l_if_ne C (tgt := 621) dL_law_606 (by decide) h (fun _ h => ?_) (fun _ h => ?_)
    · skip
      refine l_aload_n C dL_law_609 rfl 5 rfl ?_
      refine l_iconst C (v := 0) dL_law_610 (by decide) ?_
      refine l_lald C dL_law_611 (by omega) la_109 h (fun j64 _ h => ?_)
      refine l_iload C dL_law_612 0 rfl ?_
      refine l_i2l C dL_law_614 ?_
      refine l_lcmp C dL_law_615 ?_
      refine l_if_eq C (tgt := 621) dL_law_616 (by decide) h (fun _ h => ?_) (fun _ h => ?_)
      · skip
        refine l_sub C [2, 3, 4, 5, 6] (show _ = [(0, .ref scr), (1, .ref (ad 0)), (2, .ref (ad 110)), (3, .ref (ad 109)), (4, .int i)] from rfl) ?_
        exact hk621 h
      · skip
        refine l_iconst C (v := 0) dL_law_619 (by decide) ?_
        exact l_iret C rfl dL_law_620 h hres
    · skip
      refine l_sub C [2, 3, 4, 5, 6] (show _ = [(0, .ref scr), (1, .ref (ad 0)), (2, .ref (ad 110)), (3, .ref (ad 109)), (4, .int i)] from rfl) ?_
      exact hk621 h
  · skip
    refine l_iconst C (v := 0) dL_law_602 (by decide) ?_
    exact l_iret C rfl dL_law_603 h hres
noncomputable def f_law_7 (xs : Nat → Int32) (L : Nat) (i : Int32) (kk : sM → Option (sR Int32)) (m : sM) : Option (sR Int32) :=
  s_ix (i + 1) L fun j65 => s_bf 0 110 (f_L_mark (xs j65) m) m fun r66 m67 => s_ix (i + 1) L fun j68 => s_bf 110 29 (f_X10_mark (xs j68) m67) m67 fun r69 m70 => s_bf 110 29 (f_X10_thrown m70) m70 fun r71 m72 => if r71 = r66 then (s_jn (kk  m72) fun k677 => if r66 = 0 then (s_ix 0 1 fun j73 => if (lg_cmp (m72.2 109 j73) (Int32.toInt64 r69)) = 0 then (k677) else (some (.inl 0, m72))) else (k677)) else (some (.inl 0, m72))
set_option maxRecDepth 20000 in
set_option maxHeartbeats 4000000 in
theorem c_law_7 {ad : Nat → Nat} {xs : Nat → Int32} {L scr : Nat} {res : sR Int32} {V : sV} {m9 : sM} (C : sCL ad xs L scr RL cL_law 7 wsL_law res V) (hres : res = (.inl 1, m9)) (n : Nat) (i : Int32) (kk : sM → Option (sR Int32)) (m : sM) (hk : ∀ m, kk m = some res → V (16 * n + 0) 2601 [(0, .ref scr), (1, .ref (ad 0)), (2, .ref (ad 110)), (3, .ref (ad 109)), (4, .int i)] [] m) (h : f_law_7 xs L i kk m = some res) : V (16 * n + 16) 624 [(0, .ref scr), (1, .ref (ad 0)), (2, .ref (ad 110)), (3, .ref (ad 109)), (4, .int i)] [] m := by
  unfold f_law_7 at h
  refine l_aload_n C dL_law_624 rfl 1 rfl ?_
  refine l_aload_n C dL_law_625 rfl 0 rfl ?_
  refine l_iload C dL_law_626 4 rfl ?_
  refine l_iconst C (v := 1) dL_law_628 (by decide) ?_
  refine l_iadd C dL_law_629 ?_
  refine l_iald C dL_law_630 h (fun j65 _ h => ?_)
  refine l_aload_n C dL_law_631 rfl 3 rfl ?_
  refine l_callS C (c_L_mark (xs j65)) (by decide) (As := [.ref (ad 0), .int (xs j65), .ref (ad 109)]) (nn := 3) (stk := [.ref (ad 109), .int (xs j65), .ref (ad 0)]) dL_law_632 gL_law_L_mark ⟨by decide, by decide, by decide +kernel⟩ rfl rfl (by decide) rfl rfl (Nat.le_of_ble_eq_true rfl) (by omega) h (fun r66 m67 h => ?_)
  refine l_less C (b' := (16 * n + 13)) (by omega) ?_
  show V (16 * n + 13) 635 [(0, .ref scr), (1, .ref (ad 0)), (2, .ref (ad 110)), (3, .ref (ad 109)), (4, .int i)] [.int r66] m67
  refine l_istore C dL_law_635 (by decide) (show _ = [(5, .int r66), (0, .ref scr), (1, .ref (ad 0)), (2, .ref (ad 110)), (3, .ref (ad 109)), (4, .int i)] from rfl) ?_
  refine l_aload_n C dL_law_637 rfl 3 rfl ?_
  refine l_aload_n C dL_law_638 rfl 1 rfl ?_
  refine l_iload C dL_law_639 5 rfl ?_
  refine l_iconst C (v := 1) dL_law_641 (by decide) ?_
  refine l_iadd C dL_law_642 ?_
  refine l_iald C dL_law_643 h (fun j68 _ h => ?_)
  refine l_callV C (c_X10_mark 29 (by omega) (xs j68)) (by decide) (As := [.int (xs j68)]) (nn := 1) (stk := [.int (xs j68), .ref (ad 110)]) (ci := 10) dL_law_644 gL_law_X10_mark ⟨rfl, by decide, by decide, by decide +kernel⟩ (by omega) la_110 rfl rfl rfl (by decide) rfl rfl (Nat.le_of_ble_eq_true rfl) (by omega) h (fun r69 m70 h => ?_)
  show V (16 * n + 13) 647 [(5, .int r66), (0, .ref scr), (1, .ref (ad 0)), (2, .ref (ad 110)), (3, .ref (ad 109)), (4, .int i)] [.int r69] m70
  refine l_istore C dL_law_647 (by decide) (show _ = [(6, .int r69), (5, .int r66), (0, .ref scr), (1, .ref (ad 0)), (2, .ref (ad 110)), (3, .ref (ad 109)), (4, .int i)] from rfl) ?_
  refine l_aload_n C dL_law_649 rfl 4 rfl ?_
  refine l_callV C (c_X10_thrown 29 (by omega)) (by decide) (As := []) (nn := 0) (stk := [.ref (ad 110)]) (ci := 10) dL_law_650 gL_law_X10_thrown ⟨rfl, by decide, by decide, by decide +kernel⟩ (by omega) la_110 rfl rfl rfl (by decide) rfl rfl (Nat.le_of_ble_eq_true rfl) (by omega) h (fun r71 m72 h => ?_)
  show V (16 * n + 13) 653 [(6, .int r69), (5, .int r66), (0, .ref scr), (1, .ref (ad 0)), (2, .ref (ad 110)), (3, .ref (ad 109)), (4, .int i)] [.int r71] m72
  refine l_iload C dL_law_653 1 rfl ?_
  refine l_icmp_eq C (tgt := 660) dL_law_655 (by decide) h (fun _ h => ?_) (fun _ h => ?_)
  · skip
    refine l_iload C dL_law_660 1 rfl ?_
    refine s_join h (fun k677 => k677  = some res → V (16 * n + 13) 677 [(0, .ref scr), (1, .ref (ad 0)), (2, .ref (ad 110)), (3, .ref (ad 109)), (4, .int i)] [] m72) ?_ (fun k677 hk677 h => ?_)
    · intro  h
      refine l_goto C (tgt := 2601) dL_law_677 (by decide) ?_
      refine l_less C (b' := (16 * n + 0)) (by omega) ?_
      exact hk m72 h
    refine l_if_ne C (tgt := 677) dL_law_662 (by decide) h (fun _ h => ?_) (fun _ h => ?_)
    · skip
      refine l_aload_n C dL_law_665 rfl 5 rfl ?_
      refine l_iconst C (v := 0) dL_law_666 (by decide) ?_
      refine l_lald C dL_law_667 (by omega) la_109 h (fun j73 _ h => ?_)
      refine l_iload C dL_law_668 0 rfl ?_
      refine l_i2l C dL_law_670 ?_
      refine l_lcmp C dL_law_671 ?_
      refine l_if_eq C (tgt := 677) dL_law_672 (by decide) h (fun _ h => ?_) (fun _ h => ?_)
      · skip
        refine l_sub C [2, 3, 4, 5, 6] (show _ = [(0, .ref scr), (1, .ref (ad 0)), (2, .ref (ad 110)), (3, .ref (ad 109)), (4, .int i)] from rfl) ?_
        exact hk677 h
      · skip
        refine l_iconst C (v := 0) dL_law_675 (by decide) ?_
        exact l_iret C rfl dL_law_676 h hres
    · skip
      refine l_sub C [2, 3, 4, 5, 6] (show _ = [(0, .ref scr), (1, .ref (ad 0)), (2, .ref (ad 110)), (3, .ref (ad 109)), (4, .int i)] from rfl) ?_
      exact hk677 h
  · skip
    refine l_iconst C (v := 0) dL_law_658 (by decide) ?_
    exact l_iret C rfl dL_law_659 h hres
noncomputable def f_law_8 (xs : Nat → Int32) (L : Nat) (i : Int32) (kk : sM → Option (sR Int32)) (m : sM) : Option (sR Int32) :=
  s_ix (i + 1) L fun j74 => s_bf 0 110 (f_L_goBack (xs j74) m) m fun r75 m76 => s_ix (i + 1) L fun j77 => s_bf 110 29 (f_X10_goBack (xs j77) m76) m76 fun r78 m79 => s_bf 110 29 (f_X10_thrown m79) m79 fun r80 m81 => if r80 = r75 then (s_jn (kk  m81) fun k733 => if r75 = 0 then (s_ix 0 1 fun j82 => if (lg_cmp (m81.2 109 j82) (Int32.toInt64 r78)) = 0 then (k733) else (some (.inl 0, m81))) else (k733)) else (some (.inl 0, m81))
set_option maxRecDepth 20000 in
set_option maxHeartbeats 4000000 in
theorem c_law_8 {ad : Nat → Nat} {xs : Nat → Int32} {L scr : Nat} {res : sR Int32} {V : sV} {m9 : sM} (C : sCL ad xs L scr RL cL_law 7 wsL_law res V) (hres : res = (.inl 1, m9)) (n : Nat) (i : Int32) (kk : sM → Option (sR Int32)) (m : sM) (hk : ∀ m, kk m = some res → V (16 * n + 0) 2601 [(0, .ref scr), (1, .ref (ad 0)), (2, .ref (ad 110)), (3, .ref (ad 109)), (4, .int i)] [] m) (h : f_law_8 xs L i kk m = some res) : V (16 * n + 16) 680 [(0, .ref scr), (1, .ref (ad 0)), (2, .ref (ad 110)), (3, .ref (ad 109)), (4, .int i)] [] m := by
  unfold f_law_8 at h
  refine l_aload_n C dL_law_680 rfl 1 rfl ?_
  refine l_aload_n C dL_law_681 rfl 0 rfl ?_
  refine l_iload C dL_law_682 4 rfl ?_
  refine l_iconst C (v := 1) dL_law_684 (by decide) ?_
  refine l_iadd C dL_law_685 ?_
  refine l_iald C dL_law_686 h (fun j74 _ h => ?_)
  refine l_aload_n C dL_law_687 rfl 3 rfl ?_
  refine l_callS C (c_L_goBack (xs j74)) (by decide) (As := [.ref (ad 0), .int (xs j74), .ref (ad 109)]) (nn := 3) (stk := [.ref (ad 109), .int (xs j74), .ref (ad 0)]) dL_law_688 gL_law_L_goBack ⟨by decide, by decide, by decide +kernel⟩ rfl rfl (by decide) rfl rfl (Nat.le_of_ble_eq_true rfl) (by omega) h (fun r75 m76 h => ?_)
  refine l_less C (b' := (16 * n + 13)) (by omega) ?_
  show V (16 * n + 13) 691 [(0, .ref scr), (1, .ref (ad 0)), (2, .ref (ad 110)), (3, .ref (ad 109)), (4, .int i)] [.int r75] m76
  refine l_istore C dL_law_691 (by decide) (show _ = [(5, .int r75), (0, .ref scr), (1, .ref (ad 0)), (2, .ref (ad 110)), (3, .ref (ad 109)), (4, .int i)] from rfl) ?_
  refine l_aload_n C dL_law_693 rfl 3 rfl ?_
  refine l_aload_n C dL_law_694 rfl 1 rfl ?_
  refine l_iload C dL_law_695 5 rfl ?_
  refine l_iconst C (v := 1) dL_law_697 (by decide) ?_
  refine l_iadd C dL_law_698 ?_
  refine l_iald C dL_law_699 h (fun j77 _ h => ?_)
  refine l_callV C (c_X10_goBack 29 (by omega) (xs j77)) (by decide) (As := [.int (xs j77)]) (nn := 1) (stk := [.int (xs j77), .ref (ad 110)]) (ci := 10) dL_law_700 gL_law_X10_goBack ⟨rfl, by decide, by decide, by decide +kernel⟩ (by omega) la_110 rfl rfl rfl (by decide) rfl rfl (Nat.le_of_ble_eq_true rfl) (by omega) h (fun r78 m79 h => ?_)
  show V (16 * n + 13) 703 [(5, .int r75), (0, .ref scr), (1, .ref (ad 0)), (2, .ref (ad 110)), (3, .ref (ad 109)), (4, .int i)] [.int r78] m79
  refine l_istore C dL_law_703 (by decide) (show _ = [(6, .int r78), (5, .int r75), (0, .ref scr), (1, .ref (ad 0)), (2, .ref (ad 110)), (3, .ref (ad 109)), (4, .int i)] from rfl) ?_
  refine l_aload_n C dL_law_705 rfl 4 rfl ?_
  refine l_callV C (c_X10_thrown 29 (by omega)) (by decide) (As := []) (nn := 0) (stk := [.ref (ad 110)]) (ci := 10) dL_law_706 gL_law_X10_thrown ⟨rfl, by decide, by decide, by decide +kernel⟩ (by omega) la_110 rfl rfl rfl (by decide) rfl rfl (Nat.le_of_ble_eq_true rfl) (by omega) h (fun r80 m81 h => ?_)
  show V (16 * n + 13) 709 [(6, .int r78), (5, .int r75), (0, .ref scr), (1, .ref (ad 0)), (2, .ref (ad 110)), (3, .ref (ad 109)), (4, .int i)] [.int r80] m81
  refine l_iload C dL_law_709 1 rfl ?_
  refine l_icmp_eq C (tgt := 716) dL_law_711 (by decide) h (fun _ h => ?_) (fun _ h => ?_)
  · skip
    refine l_iload C dL_law_716 1 rfl ?_
    refine s_join h (fun k733 => k733  = some res → V (16 * n + 13) 733 [(0, .ref scr), (1, .ref (ad 0)), (2, .ref (ad 110)), (3, .ref (ad 109)), (4, .int i)] [] m81) ?_ (fun k733 hk733 h => ?_)
    · intro  h
      refine l_goto C (tgt := 2601) dL_law_733 (by decide) ?_
      refine l_less C (b' := (16 * n + 0)) (by omega) ?_
      exact hk m81 h
    refine l_if_ne C (tgt := 733) dL_law_718 (by decide) h (fun _ h => ?_) (fun _ h => ?_)
    · skip
      refine l_aload_n C dL_law_721 rfl 5 rfl ?_
      refine l_iconst C (v := 0) dL_law_722 (by decide) ?_
      refine l_lald C dL_law_723 (by omega) la_109 h (fun j82 _ h => ?_)
      refine l_iload C dL_law_724 0 rfl ?_
      refine l_i2l C dL_law_726 ?_
      refine l_lcmp C dL_law_727 ?_
      refine l_if_eq C (tgt := 733) dL_law_728 (by decide) h (fun _ h => ?_) (fun _ h => ?_)
      · skip
        refine l_sub C [2, 3, 4, 5, 6] (show _ = [(0, .ref scr), (1, .ref (ad 0)), (2, .ref (ad 110)), (3, .ref (ad 109)), (4, .int i)] from rfl) ?_
        exact hk733 h
      · skip
        refine l_iconst C (v := 0) dL_law_731 (by decide) ?_
        exact l_iret C rfl dL_law_732 h hres
    · skip
      refine l_sub C [2, 3, 4, 5, 6] (show _ = [(0, .ref scr), (1, .ref (ad 0)), (2, .ref (ad 110)), (3, .ref (ad 109)), (4, .int i)] from rfl) ?_
      exact hk733 h
  · skip
    refine l_iconst C (v := 0) dL_law_714 (by decide) ?_
    exact l_iret C rfl dL_law_715 h hres
noncomputable def f_law_9 (xs : Nat → Int32) (L : Nat) (i : Int32) (kk : sM → Option (sR Int32)) (m : sM) : Option (sR Int32) :=
  s_ix (i + 1) L fun j83 => s_bf 0 110 (f_L_ready (xs j83) m) m fun r84 m85 => s_ix (i + 1) L fun j86 => s_bf 110 29 (f_X10_ready (xs j86) m85) m85 fun r87 m88 => s_bf 110 29 (f_X10_thrown m88) m88 fun r89 m90 => if r89 = r84 then (s_jn (kk  m90) fun k789 => if r84 = 0 then (s_ix 0 1 fun j91 => if (lg_cmp (m90.2 109 j91) (Int32.toInt64 r87)) = 0 then (k789) else (some (.inl 0, m90))) else (k789)) else (some (.inl 0, m90))
set_option maxRecDepth 20000 in
set_option maxHeartbeats 4000000 in
theorem c_law_9 {ad : Nat → Nat} {xs : Nat → Int32} {L scr : Nat} {res : sR Int32} {V : sV} {m9 : sM} (C : sCL ad xs L scr RL cL_law 7 wsL_law res V) (hres : res = (.inl 1, m9)) (n : Nat) (i : Int32) (kk : sM → Option (sR Int32)) (m : sM) (hk : ∀ m, kk m = some res → V (16 * n + 0) 2601 [(0, .ref scr), (1, .ref (ad 0)), (2, .ref (ad 110)), (3, .ref (ad 109)), (4, .int i)] [] m) (h : f_law_9 xs L i kk m = some res) : V (16 * n + 16) 736 [(0, .ref scr), (1, .ref (ad 0)), (2, .ref (ad 110)), (3, .ref (ad 109)), (4, .int i)] [] m := by
  unfold f_law_9 at h
  refine l_aload_n C dL_law_736 rfl 1 rfl ?_
  refine l_aload_n C dL_law_737 rfl 0 rfl ?_
  refine l_iload C dL_law_738 4 rfl ?_
  refine l_iconst C (v := 1) dL_law_740 (by decide) ?_
  refine l_iadd C dL_law_741 ?_
  refine l_iald C dL_law_742 h (fun j83 _ h => ?_)
  refine l_aload_n C dL_law_743 rfl 3 rfl ?_
  refine l_callS C (c_L_ready (xs j83)) (by decide) (As := [.ref (ad 0), .int (xs j83), .ref (ad 109)]) (nn := 3) (stk := [.ref (ad 109), .int (xs j83), .ref (ad 0)]) dL_law_744 gL_law_L_ready ⟨by decide, by decide, by decide +kernel⟩ rfl rfl (by decide) rfl rfl (Nat.le_of_ble_eq_true rfl) (by omega) h (fun r84 m85 h => ?_)
  refine l_less C (b' := (16 * n + 14)) (by omega) ?_
  show V (16 * n + 14) 747 [(0, .ref scr), (1, .ref (ad 0)), (2, .ref (ad 110)), (3, .ref (ad 109)), (4, .int i)] [.int r84] m85
  refine l_istore C dL_law_747 (by decide) (show _ = [(5, .int r84), (0, .ref scr), (1, .ref (ad 0)), (2, .ref (ad 110)), (3, .ref (ad 109)), (4, .int i)] from rfl) ?_
  refine l_aload_n C dL_law_749 rfl 3 rfl ?_
  refine l_aload_n C dL_law_750 rfl 1 rfl ?_
  refine l_iload C dL_law_751 5 rfl ?_
  refine l_iconst C (v := 1) dL_law_753 (by decide) ?_
  refine l_iadd C dL_law_754 ?_
  refine l_iald C dL_law_755 h (fun j86 _ h => ?_)
  refine l_callV C (c_X10_ready 29 (by omega) (xs j86)) (by decide) (As := [.int (xs j86)]) (nn := 1) (stk := [.int (xs j86), .ref (ad 110)]) (ci := 10) dL_law_756 gL_law_X10_ready ⟨rfl, by decide, by decide, by decide +kernel⟩ (by omega) la_110 rfl rfl rfl (by decide) rfl rfl (Nat.le_of_ble_eq_true rfl) (by omega) h (fun r87 m88 h => ?_)
  show V (16 * n + 14) 759 [(5, .int r84), (0, .ref scr), (1, .ref (ad 0)), (2, .ref (ad 110)), (3, .ref (ad 109)), (4, .int i)] [.int r87] m88
  refine l_istore C dL_law_759 (by decide) (show _ = [(6, .int r87), (5, .int r84), (0, .ref scr), (1, .ref (ad 0)), (2, .ref (ad 110)), (3, .ref (ad 109)), (4, .int i)] from rfl) ?_
  refine l_aload_n C dL_law_761 rfl 4 rfl ?_
  refine l_callV C (c_X10_thrown 29 (by omega)) (by decide) (As := []) (nn := 0) (stk := [.ref (ad 110)]) (ci := 10) dL_law_762 gL_law_X10_thrown ⟨rfl, by decide, by decide, by decide +kernel⟩ (by omega) la_110 rfl rfl rfl (by decide) rfl rfl (Nat.le_of_ble_eq_true rfl) (by omega) h (fun r89 m90 h => ?_)
  show V (16 * n + 14) 765 [(6, .int r87), (5, .int r84), (0, .ref scr), (1, .ref (ad 0)), (2, .ref (ad 110)), (3, .ref (ad 109)), (4, .int i)] [.int r89] m90
  refine l_iload C dL_law_765 1 rfl ?_
  refine l_icmp_eq C (tgt := 772) dL_law_767 (by decide) h (fun _ h => ?_) (fun _ h => ?_)
  · skip
    refine l_iload C dL_law_772 1 rfl ?_
    refine s_join h (fun k789 => k789  = some res → V (16 * n + 14) 789 [(0, .ref scr), (1, .ref (ad 0)), (2, .ref (ad 110)), (3, .ref (ad 109)), (4, .int i)] [] m90) ?_ (fun k789 hk789 h => ?_)
    · intro  h
      refine l_goto C (tgt := 2601) dL_law_789 (by decide) ?_
      refine l_less C (b' := (16 * n + 0)) (by omega) ?_
      exact hk m90 h
    refine l_if_ne C (tgt := 789) dL_law_774 (by decide) h (fun _ h => ?_) (fun _ h => ?_)
    · skip
      refine l_aload_n C dL_law_777 rfl 5 rfl ?_
      refine l_iconst C (v := 0) dL_law_778 (by decide) ?_
      refine l_lald C dL_law_779 (by omega) la_109 h (fun j91 _ h => ?_)
      refine l_iload C dL_law_780 0 rfl ?_
      refine l_i2l C dL_law_782 ?_
      refine l_lcmp C dL_law_783 ?_
      refine l_if_eq C (tgt := 789) dL_law_784 (by decide) h (fun _ h => ?_) (fun _ h => ?_)
      · skip
        refine l_sub C [2, 3, 4, 5, 6] (show _ = [(0, .ref scr), (1, .ref (ad 0)), (2, .ref (ad 110)), (3, .ref (ad 109)), (4, .int i)] from rfl) ?_
        exact hk789 h
      · skip
        refine l_iconst C (v := 0) dL_law_787 (by decide) ?_
        exact l_iret C rfl dL_law_788 h hres
    · skip
      refine l_sub C [2, 3, 4, 5, 6] (show _ = [(0, .ref scr), (1, .ref (ad 0)), (2, .ref (ad 110)), (3, .ref (ad 109)), (4, .int i)] from rfl) ?_
      exact hk789 h
  · skip
    refine l_iconst C (v := 0) dL_law_770 (by decide) ?_
    exact l_iret C rfl dL_law_771 h hres
noncomputable def f_law_10 (xs : Nat → Int32) (L : Nat) (i : Int32) (kk : sM → Option (sR Int32)) (m : sM) : Option (sR Int32) :=
  s_ix (i + 1) L fun j92 => s_bf 0 110 (f_L_abandon (xs j92) m) m fun r93 m94 => s_ix (i + 1) L fun j95 => s_bf 110 29 (f_X10_abandon (xs j95) m94) m94 fun r96 m97 => s_bf 110 29 (f_X10_thrown m97) m97 fun r98 m99 => if r98 = r93 then (s_jn (kk  m99) fun k845 => if r93 = 0 then (s_ix 0 1 fun j100 => if (lg_cmp (m99.2 109 j100) (Int32.toInt64 r96)) = 0 then (k845) else (some (.inl 0, m99))) else (k845)) else (some (.inl 0, m99))
set_option maxRecDepth 20000 in
set_option maxHeartbeats 4000000 in
theorem c_law_10 {ad : Nat → Nat} {xs : Nat → Int32} {L scr : Nat} {res : sR Int32} {V : sV} {m9 : sM} (C : sCL ad xs L scr RL cL_law 7 wsL_law res V) (hres : res = (.inl 1, m9)) (n : Nat) (i : Int32) (kk : sM → Option (sR Int32)) (m : sM) (hk : ∀ m, kk m = some res → V (16 * n + 0) 2601 [(0, .ref scr), (1, .ref (ad 0)), (2, .ref (ad 110)), (3, .ref (ad 109)), (4, .int i)] [] m) (h : f_law_10 xs L i kk m = some res) : V (16 * n + 16) 792 [(0, .ref scr), (1, .ref (ad 0)), (2, .ref (ad 110)), (3, .ref (ad 109)), (4, .int i)] [] m := by
  unfold f_law_10 at h
  refine l_aload_n C dL_law_792 rfl 1 rfl ?_
  refine l_aload_n C dL_law_793 rfl 0 rfl ?_
  refine l_iload C dL_law_794 4 rfl ?_
  refine l_iconst C (v := 1) dL_law_796 (by decide) ?_
  refine l_iadd C dL_law_797 ?_
  refine l_iald C dL_law_798 h (fun j92 _ h => ?_)
  refine l_aload_n C dL_law_799 rfl 3 rfl ?_
  refine l_callS C (c_L_abandon (xs j92)) (by decide) (As := [.ref (ad 0), .int (xs j92), .ref (ad 109)]) (nn := 3) (stk := [.ref (ad 109), .int (xs j92), .ref (ad 0)]) dL_law_800 gL_law_L_abandon ⟨by decide, by decide, by decide +kernel⟩ rfl rfl (by decide) rfl rfl (Nat.le_of_ble_eq_true rfl) (by omega) h (fun r93 m94 h => ?_)
  refine l_less C (b' := (16 * n + 14)) (by omega) ?_
  show V (16 * n + 14) 803 [(0, .ref scr), (1, .ref (ad 0)), (2, .ref (ad 110)), (3, .ref (ad 109)), (4, .int i)] [.int r93] m94
  refine l_istore C dL_law_803 (by decide) (show _ = [(5, .int r93), (0, .ref scr), (1, .ref (ad 0)), (2, .ref (ad 110)), (3, .ref (ad 109)), (4, .int i)] from rfl) ?_
  refine l_aload_n C dL_law_805 rfl 3 rfl ?_
  refine l_aload_n C dL_law_806 rfl 1 rfl ?_
  refine l_iload C dL_law_807 5 rfl ?_
  refine l_iconst C (v := 1) dL_law_809 (by decide) ?_
  refine l_iadd C dL_law_810 ?_
  refine l_iald C dL_law_811 h (fun j95 _ h => ?_)
  refine l_callV C (c_X10_abandon 29 (by omega) (xs j95)) (by decide) (As := [.int (xs j95)]) (nn := 1) (stk := [.int (xs j95), .ref (ad 110)]) (ci := 10) dL_law_812 gL_law_X10_abandon ⟨rfl, by decide, by decide, by decide +kernel⟩ (by omega) la_110 rfl rfl rfl (by decide) rfl rfl (Nat.le_of_ble_eq_true rfl) (by omega) h (fun r96 m97 h => ?_)
  show V (16 * n + 14) 815 [(5, .int r93), (0, .ref scr), (1, .ref (ad 0)), (2, .ref (ad 110)), (3, .ref (ad 109)), (4, .int i)] [.int r96] m97
  refine l_istore C dL_law_815 (by decide) (show _ = [(6, .int r96), (5, .int r93), (0, .ref scr), (1, .ref (ad 0)), (2, .ref (ad 110)), (3, .ref (ad 109)), (4, .int i)] from rfl) ?_
  refine l_aload_n C dL_law_817 rfl 4 rfl ?_
  refine l_callV C (c_X10_thrown 29 (by omega)) (by decide) (As := []) (nn := 0) (stk := [.ref (ad 110)]) (ci := 10) dL_law_818 gL_law_X10_thrown ⟨rfl, by decide, by decide, by decide +kernel⟩ (by omega) la_110 rfl rfl rfl (by decide) rfl rfl (Nat.le_of_ble_eq_true rfl) (by omega) h (fun r98 m99 h => ?_)
  show V (16 * n + 14) 821 [(6, .int r96), (5, .int r93), (0, .ref scr), (1, .ref (ad 0)), (2, .ref (ad 110)), (3, .ref (ad 109)), (4, .int i)] [.int r98] m99
  refine l_iload C dL_law_821 1 rfl ?_
  refine l_icmp_eq C (tgt := 828) dL_law_823 (by decide) h (fun _ h => ?_) (fun _ h => ?_)
  · skip
    refine l_iload C dL_law_828 1 rfl ?_
    refine s_join h (fun k845 => k845  = some res → V (16 * n + 14) 845 [(0, .ref scr), (1, .ref (ad 0)), (2, .ref (ad 110)), (3, .ref (ad 109)), (4, .int i)] [] m99) ?_ (fun k845 hk845 h => ?_)
    · intro  h
      refine l_goto C (tgt := 2601) dL_law_845 (by decide) ?_
      refine l_less C (b' := (16 * n + 0)) (by omega) ?_
      exact hk m99 h
    refine l_if_ne C (tgt := 845) dL_law_830 (by decide) h (fun _ h => ?_) (fun _ h => ?_)
    · skip
      refine l_aload_n C dL_law_833 rfl 5 rfl ?_
      refine l_iconst C (v := 0) dL_law_834 (by decide) ?_
      refine l_lald C dL_law_835 (by omega) la_109 h (fun j100 _ h => ?_)
      refine l_iload C dL_law_836 0 rfl ?_
      refine l_i2l C dL_law_838 ?_
      refine l_lcmp C dL_law_839 ?_
      refine l_if_eq C (tgt := 845) dL_law_840 (by decide) h (fun _ h => ?_) (fun _ h => ?_)
      · skip
        refine l_sub C [2, 3, 4, 5, 6] (show _ = [(0, .ref scr), (1, .ref (ad 0)), (2, .ref (ad 110)), (3, .ref (ad 109)), (4, .int i)] from rfl) ?_
        exact hk845 h
      · skip
        refine l_iconst C (v := 0) dL_law_843 (by decide) ?_
        exact l_iret C rfl dL_law_844 h hres
    · skip
      refine l_sub C [2, 3, 4, 5, 6] (show _ = [(0, .ref scr), (1, .ref (ad 0)), (2, .ref (ad 110)), (3, .ref (ad 109)), (4, .int i)] from rfl) ?_
      exact hk845 h
  · skip
    refine l_iconst C (v := 0) dL_law_826 (by decide) ?_
    exact l_iret C rfl dL_law_827 h hres
noncomputable def f_law_11 (xs : Nat → Int32) (L : Nat) (i : Int32) (kk : sM → Option (sR Int32)) (m : sM) : Option (sR Int32) :=
  s_ix (i + 1) L fun j101 => s_bf 0 110 (f_L_feed (s_i2c (xs j101)) m) m fun r102 m103 => s_ix (i + 1) L fun j104 => s_bf 110 29 (f_X10_feed (s_i2c (xs j104)) m103) m103 fun r105 m106 => s_bf 110 29 (f_X10_thrown m106) m106 fun r107 m108 => if r107 = r102 then (s_jn (kk  m108) fun k903 => if r102 = 0 then (s_ix 0 1 fun j109 => if (lg_cmp (m108.2 109 j109) (Int32.toInt64 r105)) = 0 then (k903) else (some (.inl 0, m108))) else (k903)) else (some (.inl 0, m108))
set_option maxRecDepth 20000 in
set_option maxHeartbeats 4000000 in
theorem c_law_11 {ad : Nat → Nat} {xs : Nat → Int32} {L scr : Nat} {res : sR Int32} {V : sV} {m9 : sM} (C : sCL ad xs L scr RL cL_law 7 wsL_law res V) (hres : res = (.inl 1, m9)) (n : Nat) (i : Int32) (kk : sM → Option (sR Int32)) (m : sM) (hk : ∀ m, kk m = some res → V (16 * n + 0) 2601 [(0, .ref scr), (1, .ref (ad 0)), (2, .ref (ad 110)), (3, .ref (ad 109)), (4, .int i)] [] m) (h : f_law_11 xs L i kk m = some res) : V (16 * n + 16) 848 [(0, .ref scr), (1, .ref (ad 0)), (2, .ref (ad 110)), (3, .ref (ad 109)), (4, .int i)] [] m := by
  unfold f_law_11 at h
  refine l_aload_n C dL_law_848 rfl 1 rfl ?_
  refine l_aload_n C dL_law_849 rfl 0 rfl ?_
  refine l_iload C dL_law_850 4 rfl ?_
  refine l_iconst C (v := 1) dL_law_852 (by decide) ?_
  refine l_iadd C dL_law_853 ?_
  refine l_iald C dL_law_854 h (fun j101 _ h => ?_)
  refine l_i2c C dL_law_855 ?_
  refine l_aload_n C dL_law_856 rfl 3 rfl ?_
  refine l_callS C (c_L_feed (s_i2c (xs j101))) (by decide) (As := [.ref (ad 0), .int (s_i2c (xs j101)), .ref (ad 109)]) (nn := 3) (stk := [.ref (ad 109), .int (s_i2c (xs j101)), .ref (ad 0)]) dL_law_857 gL_law_L_feed ⟨by decide, by decide, by decide +kernel⟩ rfl rfl (by decide) rfl rfl (Nat.le_of_ble_eq_true rfl) (by omega) h (fun r102 m103 h => ?_)
  refine l_less C (b' := (16 * n + 15)) (by omega) ?_
  show V (16 * n + 15) 860 [(0, .ref scr), (1, .ref (ad 0)), (2, .ref (ad 110)), (3, .ref (ad 109)), (4, .int i)] [.int r102] m103
  refine l_istore C dL_law_860 (by decide) (show _ = [(5, .int r102), (0, .ref scr), (1, .ref (ad 0)), (2, .ref (ad 110)), (3, .ref (ad 109)), (4, .int i)] from rfl) ?_
  refine l_aload_n C dL_law_862 rfl 3 rfl ?_
  refine l_aload_n C dL_law_863 rfl 1 rfl ?_
  refine l_iload C dL_law_864 5 rfl ?_
  refine l_iconst C (v := 1) dL_law_866 (by decide) ?_
  refine l_iadd C dL_law_867 ?_
  refine l_iald C dL_law_868 h (fun j104 _ h => ?_)
  refine l_i2c C dL_law_869 ?_
  refine l_callV C (c_X10_feed 29 (by omega) (s_i2c (xs j104))) (by decide) (As := [.int (s_i2c (xs j104))]) (nn := 1) (stk := [.int (s_i2c (xs j104)), .ref (ad 110)]) (ci := 10) dL_law_870 gL_law_X10_feed ⟨rfl, by decide, by decide, by decide +kernel⟩ (by omega) la_110 rfl rfl rfl (by decide) rfl rfl (Nat.le_of_ble_eq_true rfl) (by omega) h (fun r105 m106 h => ?_)
  show V (16 * n + 15) 873 [(5, .int r102), (0, .ref scr), (1, .ref (ad 0)), (2, .ref (ad 110)), (3, .ref (ad 109)), (4, .int i)] [.int r105] m106
  refine l_istore C dL_law_873 (by decide) (show _ = [(6, .int r105), (5, .int r102), (0, .ref scr), (1, .ref (ad 0)), (2, .ref (ad 110)), (3, .ref (ad 109)), (4, .int i)] from rfl) ?_
  refine l_aload_n C dL_law_875 rfl 4 rfl ?_
  refine l_callV C (c_X10_thrown 29 (by omega)) (by decide) (As := []) (nn := 0) (stk := [.ref (ad 110)]) (ci := 10) dL_law_876 gL_law_X10_thrown ⟨rfl, by decide, by decide, by decide +kernel⟩ (by omega) la_110 rfl rfl rfl (by decide) rfl rfl (Nat.le_of_ble_eq_true rfl) (by omega) h (fun r107 m108 h => ?_)
  show V (16 * n + 15) 879 [(6, .int r105), (5, .int r102), (0, .ref scr), (1, .ref (ad 0)), (2, .ref (ad 110)), (3, .ref (ad 109)), (4, .int i)] [.int r107] m108
  refine l_iload C dL_law_879 1 rfl ?_
  refine l_icmp_eq C (tgt := 886) dL_law_881 (by decide) h (fun _ h => ?_) (fun _ h => ?_)
  · skip
    refine l_iload C dL_law_886 1 rfl ?_
    refine s_join h (fun k903 => k903  = some res → V (16 * n + 15) 903 [(0, .ref scr), (1, .ref (ad 0)), (2, .ref (ad 110)), (3, .ref (ad 109)), (4, .int i)] [] m108) ?_ (fun k903 hk903 h => ?_)
    · intro  h
      refine l_goto C (tgt := 2601) dL_law_903 (by decide) ?_
      refine l_less C (b' := (16 * n + 0)) (by omega) ?_
      exact hk m108 h
    refine l_if_ne C (tgt := 903) dL_law_888 (by decide) h (fun _ h => ?_) (fun _ h => ?_)
    · skip
      refine l_aload_n C dL_law_891 rfl 5 rfl ?_
      refine l_iconst C (v := 0) dL_law_892 (by decide) ?_
      refine l_lald C dL_law_893 (by omega) la_109 h (fun j109 _ h => ?_)
      refine l_iload C dL_law_894 0 rfl ?_
      refine l_i2l C dL_law_896 ?_
      refine l_lcmp C dL_law_897 ?_
      refine l_if_eq C (tgt := 903) dL_law_898 (by decide) h (fun _ h => ?_) (fun _ h => ?_)
      · skip
        refine l_sub C [2, 3, 4, 5, 6] (show _ = [(0, .ref scr), (1, .ref (ad 0)), (2, .ref (ad 110)), (3, .ref (ad 109)), (4, .int i)] from rfl) ?_
        exact hk903 h
      · skip
        refine l_iconst C (v := 0) dL_law_901 (by decide) ?_
        exact l_iret C rfl dL_law_902 h hres
    · skip
      refine l_sub C [2, 3, 4, 5, 6] (show _ = [(0, .ref scr), (1, .ref (ad 0)), (2, .ref (ad 110)), (3, .ref (ad 109)), (4, .int i)] from rfl) ?_
      exact hk903 h
  · skip
    refine l_iconst C (v := 0) dL_law_884 (by decide) ?_
    exact l_iret C rfl dL_law_885 h hres
noncomputable def f_law_12 (xs : Nat → Int32) (L : Nat) (i : Int32) (kk : sM → Option (sR Int32)) (m : sM) : Option (sR Int32) :=
  s_ix (i + 1) L fun j110 => s_bf 0 110 (f_L_readChanges (xs j110) m) m fun r111 m112 => s_ix (i + 1) L fun j113 => s_bf 110 29 (f_X10_readChanges (xs j113) m112) m112 fun r114 m115 => s_bf 110 29 (f_X10_thrown m115) m115 fun r116 m117 => if r116 = r111 then (s_jn (kk  m117) fun k959 => if r111 = 0 then (s_ix 0 1 fun j118 => if (lg_cmp (m117.2 109 j118) (Int32.toInt64 r114)) = 0 then (k959) else (some (.inl 0, m117))) else (k959)) else (some (.inl 0, m117))
set_option maxRecDepth 20000 in
set_option maxHeartbeats 4000000 in
theorem c_law_12 {ad : Nat → Nat} {xs : Nat → Int32} {L scr : Nat} {res : sR Int32} {V : sV} {m9 : sM} (C : sCL ad xs L scr RL cL_law 7 wsL_law res V) (hres : res = (.inl 1, m9)) (n : Nat) (i : Int32) (kk : sM → Option (sR Int32)) (m : sM) (hk : ∀ m, kk m = some res → V (16 * n + 0) 2601 [(0, .ref scr), (1, .ref (ad 0)), (2, .ref (ad 110)), (3, .ref (ad 109)), (4, .int i)] [] m) (h : f_law_12 xs L i kk m = some res) : V (16 * n + 16) 906 [(0, .ref scr), (1, .ref (ad 0)), (2, .ref (ad 110)), (3, .ref (ad 109)), (4, .int i)] [] m := by
  unfold f_law_12 at h
  refine l_aload_n C dL_law_906 rfl 1 rfl ?_
  refine l_aload_n C dL_law_907 rfl 0 rfl ?_
  refine l_iload C dL_law_908 4 rfl ?_
  refine l_iconst C (v := 1) dL_law_910 (by decide) ?_
  refine l_iadd C dL_law_911 ?_
  refine l_iald C dL_law_912 h (fun j110 _ h => ?_)
  refine l_aload_n C dL_law_913 rfl 3 rfl ?_
  refine l_callS C (c_L_readChanges (xs j110)) (by decide) (As := [.ref (ad 0), .int (xs j110), .ref (ad 109)]) (nn := 3) (stk := [.ref (ad 109), .int (xs j110), .ref (ad 0)]) dL_law_914 gL_law_L_readChanges ⟨by decide, by decide, by decide +kernel⟩ rfl rfl (by decide) rfl rfl (Nat.le_of_ble_eq_true rfl) (by omega) h (fun r111 m112 h => ?_)
  refine l_less C (b' := (16 * n + 14)) (by omega) ?_
  show V (16 * n + 14) 917 [(0, .ref scr), (1, .ref (ad 0)), (2, .ref (ad 110)), (3, .ref (ad 109)), (4, .int i)] [.int r111] m112
  refine l_istore C dL_law_917 (by decide) (show _ = [(5, .int r111), (0, .ref scr), (1, .ref (ad 0)), (2, .ref (ad 110)), (3, .ref (ad 109)), (4, .int i)] from rfl) ?_
  refine l_aload_n C dL_law_919 rfl 3 rfl ?_
  refine l_aload_n C dL_law_920 rfl 1 rfl ?_
  refine l_iload C dL_law_921 5 rfl ?_
  refine l_iconst C (v := 1) dL_law_923 (by decide) ?_
  refine l_iadd C dL_law_924 ?_
  refine l_iald C dL_law_925 h (fun j113 _ h => ?_)
  refine l_callV C (c_X10_readChanges 29 (by omega) (xs j113)) (by decide) (As := [.int (xs j113)]) (nn := 1) (stk := [.int (xs j113), .ref (ad 110)]) (ci := 10) dL_law_926 gL_law_X10_readChanges ⟨rfl, by decide, by decide, by decide +kernel⟩ (by omega) la_110 rfl rfl rfl (by decide) rfl rfl (Nat.le_of_ble_eq_true rfl) (by omega) h (fun r114 m115 h => ?_)
  show V (16 * n + 14) 929 [(5, .int r111), (0, .ref scr), (1, .ref (ad 0)), (2, .ref (ad 110)), (3, .ref (ad 109)), (4, .int i)] [.int r114] m115
  refine l_istore C dL_law_929 (by decide) (show _ = [(6, .int r114), (5, .int r111), (0, .ref scr), (1, .ref (ad 0)), (2, .ref (ad 110)), (3, .ref (ad 109)), (4, .int i)] from rfl) ?_
  refine l_aload_n C dL_law_931 rfl 4 rfl ?_
  refine l_callV C (c_X10_thrown 29 (by omega)) (by decide) (As := []) (nn := 0) (stk := [.ref (ad 110)]) (ci := 10) dL_law_932 gL_law_X10_thrown ⟨rfl, by decide, by decide, by decide +kernel⟩ (by omega) la_110 rfl rfl rfl (by decide) rfl rfl (Nat.le_of_ble_eq_true rfl) (by omega) h (fun r116 m117 h => ?_)
  show V (16 * n + 14) 935 [(6, .int r114), (5, .int r111), (0, .ref scr), (1, .ref (ad 0)), (2, .ref (ad 110)), (3, .ref (ad 109)), (4, .int i)] [.int r116] m117
  refine l_iload C dL_law_935 1 rfl ?_
  refine l_icmp_eq C (tgt := 942) dL_law_937 (by decide) h (fun _ h => ?_) (fun _ h => ?_)
  · skip
    refine l_iload C dL_law_942 1 rfl ?_
    refine s_join h (fun k959 => k959  = some res → V (16 * n + 14) 959 [(0, .ref scr), (1, .ref (ad 0)), (2, .ref (ad 110)), (3, .ref (ad 109)), (4, .int i)] [] m117) ?_ (fun k959 hk959 h => ?_)
    · intro  h
      refine l_goto C (tgt := 2601) dL_law_959 (by decide) ?_
      refine l_less C (b' := (16 * n + 0)) (by omega) ?_
      exact hk m117 h
    refine l_if_ne C (tgt := 959) dL_law_944 (by decide) h (fun _ h => ?_) (fun _ h => ?_)
    · skip
      refine l_aload_n C dL_law_947 rfl 5 rfl ?_
      refine l_iconst C (v := 0) dL_law_948 (by decide) ?_
      refine l_lald C dL_law_949 (by omega) la_109 h (fun j118 _ h => ?_)
      refine l_iload C dL_law_950 0 rfl ?_
      refine l_i2l C dL_law_952 ?_
      refine l_lcmp C dL_law_953 ?_
      refine l_if_eq C (tgt := 959) dL_law_954 (by decide) h (fun _ h => ?_) (fun _ h => ?_)
      · skip
        refine l_sub C [2, 3, 4, 5, 6] (show _ = [(0, .ref scr), (1, .ref (ad 0)), (2, .ref (ad 110)), (3, .ref (ad 109)), (4, .int i)] from rfl) ?_
        exact hk959 h
      · skip
        refine l_iconst C (v := 0) dL_law_957 (by decide) ?_
        exact l_iret C rfl dL_law_958 h hres
    · skip
      refine l_sub C [2, 3, 4, 5, 6] (show _ = [(0, .ref scr), (1, .ref (ad 0)), (2, .ref (ad 110)), (3, .ref (ad 109)), (4, .int i)] from rfl) ?_
      exact hk959 h
  · skip
    refine l_iconst C (v := 0) dL_law_940 (by decide) ?_
    exact l_iret C rfl dL_law_941 h hres
noncomputable def f_law_13 (xs : Nat → Int32) (L : Nat) (i : Int32) (kk : sM → Option (sR Int32)) (m : sM) : Option (sR Int32) :=
  s_ix (i + 1) L fun j119 => s_bf 0 110 (f_L_writeChanges (xs j119) m) m fun r120 m121 => s_ix (i + 1) L fun j122 => s_bf 110 29 (f_X10_writeChanges (xs j122) m121) m121 fun r123 m124 => s_bf 110 29 (f_X10_thrown m124) m124 fun r125 m126 => if r125 = r120 then (s_jn (kk  m126) fun k1015 => if r120 = 0 then (s_ix 0 1 fun j127 => if (lg_cmp (m126.2 109 j127) (Int32.toInt64 r123)) = 0 then (k1015) else (some (.inl 0, m126))) else (k1015)) else (some (.inl 0, m126))
set_option maxRecDepth 20000 in
set_option maxHeartbeats 4000000 in
theorem c_law_13 {ad : Nat → Nat} {xs : Nat → Int32} {L scr : Nat} {res : sR Int32} {V : sV} {m9 : sM} (C : sCL ad xs L scr RL cL_law 7 wsL_law res V) (hres : res = (.inl 1, m9)) (n : Nat) (i : Int32) (kk : sM → Option (sR Int32)) (m : sM) (hk : ∀ m, kk m = some res → V (16 * n + 0) 2601 [(0, .ref scr), (1, .ref (ad 0)), (2, .ref (ad 110)), (3, .ref (ad 109)), (4, .int i)] [] m) (h : f_law_13 xs L i kk m = some res) : V (16 * n + 16) 962 [(0, .ref scr), (1, .ref (ad 0)), (2, .ref (ad 110)), (3, .ref (ad 109)), (4, .int i)] [] m := by
  unfold f_law_13 at h
  refine l_aload_n C dL_law_962 rfl 1 rfl ?_
  refine l_aload_n C dL_law_963 rfl 0 rfl ?_
  refine l_iload C dL_law_964 4 rfl ?_
  refine l_iconst C (v := 1) dL_law_966 (by decide) ?_
  refine l_iadd C dL_law_967 ?_
  refine l_iald C dL_law_968 h (fun j119 _ h => ?_)
  refine l_aload_n C dL_law_969 rfl 3 rfl ?_
  refine l_callS C (c_L_writeChanges (xs j119)) (by decide) (As := [.ref (ad 0), .int (xs j119), .ref (ad 109)]) (nn := 3) (stk := [.ref (ad 109), .int (xs j119), .ref (ad 0)]) dL_law_970 gL_law_L_writeChanges ⟨by decide, by decide, by decide +kernel⟩ rfl rfl (by decide) rfl rfl (Nat.le_of_ble_eq_true rfl) (by omega) h (fun r120 m121 h => ?_)
  refine l_less C (b' := (16 * n + 14)) (by omega) ?_
  show V (16 * n + 14) 973 [(0, .ref scr), (1, .ref (ad 0)), (2, .ref (ad 110)), (3, .ref (ad 109)), (4, .int i)] [.int r120] m121
  refine l_istore C dL_law_973 (by decide) (show _ = [(5, .int r120), (0, .ref scr), (1, .ref (ad 0)), (2, .ref (ad 110)), (3, .ref (ad 109)), (4, .int i)] from rfl) ?_
  refine l_aload_n C dL_law_975 rfl 3 rfl ?_
  refine l_aload_n C dL_law_976 rfl 1 rfl ?_
  refine l_iload C dL_law_977 5 rfl ?_
  refine l_iconst C (v := 1) dL_law_979 (by decide) ?_
  refine l_iadd C dL_law_980 ?_
  refine l_iald C dL_law_981 h (fun j122 _ h => ?_)
  refine l_callV C (c_X10_writeChanges 29 (by omega) (xs j122)) (by decide) (As := [.int (xs j122)]) (nn := 1) (stk := [.int (xs j122), .ref (ad 110)]) (ci := 10) dL_law_982 gL_law_X10_writeChanges ⟨rfl, by decide, by decide, by decide +kernel⟩ (by omega) la_110 rfl rfl rfl (by decide) rfl rfl (Nat.le_of_ble_eq_true rfl) (by omega) h (fun r123 m124 h => ?_)
  show V (16 * n + 14) 985 [(5, .int r120), (0, .ref scr), (1, .ref (ad 0)), (2, .ref (ad 110)), (3, .ref (ad 109)), (4, .int i)] [.int r123] m124
  refine l_istore C dL_law_985 (by decide) (show _ = [(6, .int r123), (5, .int r120), (0, .ref scr), (1, .ref (ad 0)), (2, .ref (ad 110)), (3, .ref (ad 109)), (4, .int i)] from rfl) ?_
  refine l_aload_n C dL_law_987 rfl 4 rfl ?_
  refine l_callV C (c_X10_thrown 29 (by omega)) (by decide) (As := []) (nn := 0) (stk := [.ref (ad 110)]) (ci := 10) dL_law_988 gL_law_X10_thrown ⟨rfl, by decide, by decide, by decide +kernel⟩ (by omega) la_110 rfl rfl rfl (by decide) rfl rfl (Nat.le_of_ble_eq_true rfl) (by omega) h (fun r125 m126 h => ?_)
  show V (16 * n + 14) 991 [(6, .int r123), (5, .int r120), (0, .ref scr), (1, .ref (ad 0)), (2, .ref (ad 110)), (3, .ref (ad 109)), (4, .int i)] [.int r125] m126
  refine l_iload C dL_law_991 1 rfl ?_
  refine l_icmp_eq C (tgt := 998) dL_law_993 (by decide) h (fun _ h => ?_) (fun _ h => ?_)
  · skip
    refine l_iload C dL_law_998 1 rfl ?_
    refine s_join h (fun k1015 => k1015  = some res → V (16 * n + 14) 1015 [(0, .ref scr), (1, .ref (ad 0)), (2, .ref (ad 110)), (3, .ref (ad 109)), (4, .int i)] [] m126) ?_ (fun k1015 hk1015 h => ?_)
    · intro  h
      refine l_goto C (tgt := 2601) dL_law_1015 (by decide) ?_
      refine l_less C (b' := (16 * n + 0)) (by omega) ?_
      exact hk m126 h
    refine l_if_ne C (tgt := 1015) dL_law_1000 (by decide) h (fun _ h => ?_) (fun _ h => ?_)
    · skip
      refine l_aload_n C dL_law_1003 rfl 5 rfl ?_
      refine l_iconst C (v := 0) dL_law_1004 (by decide) ?_
      refine l_lald C dL_law_1005 (by omega) la_109 h (fun j127 _ h => ?_)
      refine l_iload C dL_law_1006 0 rfl ?_
      refine l_i2l C dL_law_1008 ?_
      refine l_lcmp C dL_law_1009 ?_
      refine l_if_eq C (tgt := 1015) dL_law_1010 (by decide) h (fun _ h => ?_) (fun _ h => ?_)
      · skip
        refine l_sub C [2, 3, 4, 5, 6] (show _ = [(0, .ref scr), (1, .ref (ad 0)), (2, .ref (ad 110)), (3, .ref (ad 109)), (4, .int i)] from rfl) ?_
        exact hk1015 h
      · skip
        refine l_iconst C (v := 0) dL_law_1013 (by decide) ?_
        exact l_iret C rfl dL_law_1014 h hres
    · skip
      refine l_sub C [2, 3, 4, 5, 6] (show _ = [(0, .ref scr), (1, .ref (ad 0)), (2, .ref (ad 110)), (3, .ref (ad 109)), (4, .int i)] from rfl) ?_
      exact hk1015 h
  · skip
    refine l_iconst C (v := 0) dL_law_996 (by decide) ?_
    exact l_iret C rfl dL_law_997 h hres
