/-! CONSTRUCTORS: the layout of the file. Written by wip/whole/ctors3.py. -/
set_option maxRecDepth 100000 in
set_option maxHeartbeats 1000000 in
theorem n_file {α : Type} (b0 b1 b2 b3 b4 b5 b6 b7 b8 b9 b10 b11 b12 b13 b14 b15 b16 b17 b18 b19 b20 b21 b22 b23 b24 b25 b26 b27 b28 b29 b30 b31 b32 b33 b34 b35 b36 b37 b38 b39 : List α) : ([b0, b9, b13, b1, b2, b4, b3, b5, b6, b11, b12, b32, b10, b33, b34, b35, b36, b37, b38, b39, b14, b16, b15, b17, b18, b19, b20, b22, b21, b23, b24, b25, b26, b28, b27, b29, b30, b31, b7, b8].flatten).Perm ([b0, b1, b2, b3, b4, b5, b6, b7, b8, b9, b10, b11, b12, b13, b14, b15, b16, b17, b18, b19, b20, b21, b22, b23, b24, b25, b26, b27, b28, b29, b30, b31, b32, b33, b34, b35, b36, b37, b38, b39].flatten) :=
  n_shuf (fun i => [b0, b1, b2, b3, b4, b5, b6, b7, b8, b9, b10, b11, b12, b13, b14, b15, b16, b17, b18, b19, b20, b21, b22, b23, b24, b25, b26, b27, b28, b29, b30, b31, b32, b33, b34, b35, b36, b37, b38, b39].getD i []) [0, 9, 13, 1, 2, 4, 3, 5, 6, 11, 12, 32, 10, 33, 34, 35, 36, 37, 38, 39, 14, 16, 15, 17, 18, 19, 20, 22, 21, 23, 24, 25, 26, 28, 27, 29, 30, 31, 7, 8] [0, 1, 2, 3, 4, 5, 6, 7, 8, 9, 10, 11, 12, 13, 14, 15, 16, 17, 18, 19, 20, 21, 22, 23, 24, 25, 26, 27, 28, 29, 30, 31, 32, 33, 34, 35, 36, 37, 38, 39] (by decide +kernel)
set_option maxRecDepth 100000 in
set_option maxHeartbeats 1000000 in
theorem n_lay9 (dA : Nat → ClassId) (h0 qD q9 q19 qV uV vV qN uN vN qG uG vG qH uH vH qp qu qC uC qP qs qX uX ssX vX aX ttX bX yyX cX zzX qY uY ssY vY aY ttY bY yyY cY zzY qZ uZ ssZ vZ aZ ttZ bZ yyZ cZ zzZ qr qI i1 i2 i3 i4 i5 qO o1 o2 qL l1 qF f1 f2 f3 qc : Nat) (r9 rl : Nat → Nat) (wV wN wG wH wC wP sX tX yX zX sY tY yY zY sZ tZ yZ zZ wI wO wF : va_W) (eV : wV = [(qV, .inr (8, [.ref uV, .ref vV, .long 0, .int 0, .int 0, .int 2])), (uV, .inl (dA 0, (8, .inl (fun _ => 0)))), (vV, .inl (dA 0, (64, .inl (fun _ => 0))))]) (eN : wN = [(qN, .inr (8, [.ref uN, .ref vN, .long 0, .int 0, .int 0, .int 2])), (uN, .inl (dA 0, (8, .inl (fun _ => 0)))), (vN, .inl (dA 0, (64, .inl (fun _ => 0))))]) (eG : wG = [(qG, .inr (8, [.ref uG, .ref vG, .long 0, .int 0, .int 0, .int 2])), (uG, .inl (dA 0, (8, .inl (fun _ => 0)))), (vG, .inl (dA 0, (64, .inl (fun _ => 0))))]) (eH : wH = [(qH, .inr (8, [.ref uH, .ref vH, .long 0, .int 0, .int 0, .int 2])), (uH, .inl (dA 0, (8, .inl (fun _ => 0)))), (vH, .inl (dA 0, (64, .inl (fun _ => 0))))]) (eC : wC = [(qC, .inr (0, [.ref uC, .long 0, .long 0])), (uC, .inl (dA 0, (64, .inl (fun _ => 0))))]) (eP : wP = [(qP, .inr (5, [.int (-1), .int 0, .int 0]))]) (esX : sX = [(uX, .inr (0, [.ref ssX, .long 0, .long 0])), (ssX, .inl (dA 0, (64, .inl (fun _ => 0))))]) (etX : tX = [(aX, .inr (0, [.ref ttX, .long 0, .long 0])), (ttX, .inl (dA 0, (64, .inl (fun _ => 0))))]) (eyX : yX = [(bX, .inr (0, [.ref yyX, .long 0, .long 0])), (yyX, .inl (dA 0, (64, .inl (fun _ => 0))))]) (ezX : zX = [(cX, .inr (0, [.ref zzX, .long 0, .long 0])), (zzX, .inl (dA 0, (64, .inl (fun _ => 0))))]) (esY : sY = [(uY, .inr (0, [.ref ssY, .long 0, .long 0])), (ssY, .inl (dA 0, (64, .inl (fun _ => 0))))]) (etY : tY = [(aY, .inr (0, [.ref ttY, .long 0, .long 0])), (ttY, .inl (dA 0, (64, .inl (fun _ => 0))))]) (eyY : yY = [(bY, .inr (0, [.ref yyY, .long 0, .long 0])), (yyY, .inl (dA 0, (64, .inl (fun _ => 0))))]) (ezY : zY = [(cY, .inr (0, [.ref zzY, .long 0, .long 0])), (zzY, .inl (dA 0, (64, .inl (fun _ => 0))))]) (esZ : sZ = [(uZ, .inr (0, [.ref ssZ, .long 0, .long 0])), (ssZ, .inl (dA 0, (64, .inl (fun _ => 0))))]) (etZ : tZ = [(aZ, .inr (0, [.ref ttZ, .long 0, .long 0])), (ttZ, .inl (dA 0, (64, .inl (fun _ => 0))))]) (eyZ : yZ = [(bZ, .inr (0, [.ref yyZ, .long 0, .long 0])), (yyZ, .inl (dA 0, (64, .inl (fun _ => 0))))]) (ezZ : zZ = [(cZ, .inr (0, [.ref zzZ, .long 0, .long 0])), (zzZ, .inl (dA 0, (64, .inl (fun _ => 0))))]) (eI : wI = [(qI, .inr (2, [.ref i1, .int 0, .ref i2, .ref i3, .ref i4, .ref i5, .int 0])), (i1, .inl (dA 2, (60, .inl (fun _ => 0)))), (i2, .inl (dA 0, (60, .inl (fun _ => 0)))), (i3, .inl (dA 0, (60, .inl (fun _ => 0)))), (i4, .inl (dA 0, (60, .inl (fun _ => 0)))), (i5, .inl (dA 1, (60, .inl (fun _ => 0))))]) (eO : wO = [(qO, .inr (4, [.ref o1, .ref o2, .int 0])), (o1, .inl (dA 2, (960, .inl (fun _ => 0)))), (o2, .inl (dA 2, (10, .inl (fun _ => 0))))]) (eF : wF = [(qF, .inr (6, [.ref f1, .ref f2, .ref f3, .long 0])), (f1, .inl (dA 0, (64, .inl (fun _ => 0)))), (f2, .inl (dA 0, (64, .inl (fun _ => 0)))), (f3, .inl (dA 0, (64, .inl (fun _ => 0))))]) : n_sim ([[(h0, .inr (9, [.ref qD, .ref qV, .ref qN, .ref qC, .ref qP, .ref qs, .ref qr, .int 0, .ref qp, .ref qu, .ref qI, .ref qO, .ref qL, .ref qF, .ref qc, .int 0]))], [(qD, .inr (1, [.ref q9, .ref q19]))], [(q9, .inl (dA 6, (32, .inr (.inr (.inr (.inr (fun i => some (r9 i)))))))) ], [(q19, .inl (dA 0, (13, .inl (fun _ => 0))))], [(r9 0, .inl (dA 0, (13, .inl (fun _ => 0)))), (r9 1, .inl (dA 0, (13, .inl (fun _ => 0)))), (r9 2, .inl (dA 0, (13, .inl (fun _ => 0)))), (r9 3, .inl (dA 0, (13, .inl (fun _ => 0)))), (r9 4, .inl (dA 0, (13, .inl (fun _ => 0)))), (r9 5, .inl (dA 0, (13, .inl (fun _ => 0)))), (r9 6, .inl (dA 0, (13, .inl (fun _ => 0)))), (r9 7, .inl (dA 0, (13, .inl (fun _ => 0)))), (r9 8, .inl (dA 0, (13, .inl (fun _ => 0)))), (r9 9, .inl (dA 0, (13, .inl (fun _ => 0)))), (r9 10, .inl (dA 0, (13, .inl (fun _ => 0)))), (r9 11, .inl (dA 0, (13, .inl (fun _ => 0)))), (r9 12, .inl (dA 0, (13, .inl (fun _ => 0)))), (r9 13, .inl (dA 0, (13, .inl (fun _ => 0)))), (r9 14, .inl (dA 0, (13, .inl (fun _ => 0)))), (r9 15, .inl (dA 0, (13, .inl (fun _ => 0)))), (r9 16, .inl (dA 0, (13, .inl (fun _ => 0)))), (r9 17, .inl (dA 0, (13, .inl (fun _ => 0)))), (r9 18, .inl (dA 0, (13, .inl (fun _ => 0)))), (r9 19, .inl (dA 0, (13, .inl (fun _ => 0)))), (r9 20, .inl (dA 0, (13, .inl (fun _ => 0)))), (r9 21, .inl (dA 0, (13, .inl (fun _ => 0)))), (r9 22, .inl (dA 0, (13, .inl (fun _ => 0)))), (r9 23, .inl (dA 0, (13, .inl (fun _ => 0)))), (r9 24, .inl (dA 0, (13, .inl (fun _ => 0)))), (r9 25, .inl (dA 0, (13, .inl (fun _ => 0)))), (r9 26, .inl (dA 0, (13, .inl (fun _ => 0)))), (r9 27, .inl (dA 0, (13, .inl (fun _ => 0)))), (r9 28, .inl (dA 0, (13, .inl (fun _ => 0)))), (r9 29, .inl (dA 0, (13, .inl (fun _ => 0)))), (r9 30, .inl (dA 0, (13, .inl (fun _ => 0)))), (r9 31, .inl (dA 0, (13, .inl (fun _ => 0))))], wV, wN, wG, wH, [(qp, .inl (dA 5, 2, .inr (.inr (.inr (.inr (va_up (va_up (fun _ => none) 0 (some qG)) 1 (some qH)))))))], [(qu, .inl (dA 1, (2, .inl (fun _ => 0))))], wC, wP, [(qs, .inl (dA 3, 3, .inr (.inr (.inr (.inr (va_up (va_up (va_up (fun _ => none) 0 (some qX)) 1 (some qY)) 2 (some qZ)))))))], [(qX, .inr (7, [.ref uX, .ref vX, .int 0, .int 0]))], sX, [(vX, .inl (dA 4, 3, .inr (.inr (.inr (.inr (va_up (va_up (va_up (fun _ => none) 0 (some aX)) 1 (some bX)) 2 (some cX))))))) ], tX, yX, zX, [(qY, .inr (7, [.ref uY, .ref vY, .int 0, .int 0]))], sY, [(vY, .inl (dA 4, 3, .inr (.inr (.inr (.inr (va_up (va_up (va_up (fun _ => none) 0 (some aY)) 1 (some bY)) 2 (some cY))))))) ], tY, yY, zY, [(qZ, .inr (7, [.ref uZ, .ref vZ, .int 0, .int 0]))], sZ, [(vZ, .inl (dA 4, 3, .inr (.inr (.inr (.inr (va_up (va_up (va_up (fun _ => none) 0 (some aZ)) 1 (some bZ)) 2 (some cZ))))))) ], tZ, yZ, zZ, [(qr, .inl (dA 0, (3, .inl (fun _ => 0))))], wI, wO, [(qL, .inr (3, [.ref l1, .int 0]))], [(l1, .inl (dA 6, (8, .inr (.inr (.inr (.inr (fun i => some (rl i)))))))) ], [(rl 0, .inl (dA 0, (4, .inl (fun _ => 0)))), (rl 1, .inl (dA 0, (4, .inl (fun _ => 0)))), (rl 2, .inl (dA 0, (4, .inl (fun _ => 0)))), (rl 3, .inl (dA 0, (4, .inl (fun _ => 0)))), (rl 4, .inl (dA 0, (4, .inl (fun _ => 0)))), (rl 5, .inl (dA 0, (4, .inl (fun _ => 0)))), (rl 6, .inl (dA 0, (4, .inl (fun _ => 0)))), (rl 7, .inl (dA 0, (4, .inl (fun _ => 0))))], wF, [(qc, .inl (dA 0, (8, .inl (fun _ => 0))))]].flatten) (s_w dA (n_ad 0 [h0, qD, q9, q19, r9 0, r9 1, r9 2, r9 3, r9 4, r9 5, r9 6, r9 7, r9 8, r9 9, r9 10, r9 11, r9 12, r9 13, r9 14, r9 15, r9 16, r9 17, r9 18, r9 19, r9 20, r9 21, r9 22, r9 23, r9 24, r9 25, r9 26, r9 27, r9 28, r9 29, r9 30, r9 31, qV, uV, vV, qN, uN, vN, qG, uG, vG, qH, uH, vH, qp, qu, qC, uC, qP, qs, qX, uX, ssX, vX, aX, ttX, bX, yyX, cX, zzX, qY, uY, ssY, vY, aY, ttY, bY, yyY, cY, zzY, qZ, uZ, ssZ, vZ, aZ, ttZ, bZ, yyZ, cZ, zzZ, qr, qI, i1, i2, i3, i4, i5, qO, o1, o2, qL, l1, rl 0, rl 1, rl 2, rl 3, rl 4, rl 5, rl 6, rl 7, qF, f1, f2, f3, qc]) 0 109 mc0) := by
  obtain ⟨ad, had⟩ : ∃ ad, n_ad 0 [h0, qD, q9, q19, r9 0, r9 1, r9 2, r9 3, r9 4, r9 5, r9 6, r9 7, r9 8, r9 9, r9 10, r9 11, r9 12, r9 13, r9 14, r9 15, r9 16, r9 17, r9 18, r9 19, r9 20, r9 21, r9 22, r9 23, r9 24, r9 25, r9 26, r9 27, r9 28, r9 29, r9 30, r9 31, qV, uV, vV, qN, uN, vN, qG, uG, vG, qH, uH, vH, qp, qu, qC, uC, qP, qs, qX, uX, ssX, vX, aX, ttX, bX, yyX, cX, zzX, qY, uY, ssY, vY, aY, ttY, bY, yyY, cY, zzY, qZ, uZ, ssZ, vZ, aZ, ttZ, bZ, yyZ, cZ, zzZ, qr, qI, i1, i2, i3, i4, i5, qO, o1, o2, qL, l1, rl 0, rl 1, rl 2, rl 3, rl 4, rl 5, rl 6, rl 7, qF, f1, f2, f3, qc] = ad := ⟨_, rfl⟩
  rw [had]
  have a0 : ad 0 = h0 := by rw [← had]; rfl
  have a1 : ad 1 = qD := by rw [← had]; rfl
  have a2 : ad 2 = q9 := by rw [← had]; rfl
  have a3 : ad 3 = q19 := by rw [← had]; rfl
  have a4 : ad 4 = r9 0 := by rw [← had]; rfl
  have a5 : ad 5 = r9 1 := by rw [← had]; rfl
  have a6 : ad 6 = r9 2 := by rw [← had]; rfl
  have a7 : ad 7 = r9 3 := by rw [← had]; rfl
  have a8 : ad 8 = r9 4 := by rw [← had]; rfl
  have a9 : ad 9 = r9 5 := by rw [← had]; rfl
  have a10 : ad 10 = r9 6 := by rw [← had]; rfl
  have a11 : ad 11 = r9 7 := by rw [← had]; rfl
  have a12 : ad 12 = r9 8 := by rw [← had]; rfl
  have a13 : ad 13 = r9 9 := by rw [← had]; rfl
  have a14 : ad 14 = r9 10 := by rw [← had]; rfl
  have a15 : ad 15 = r9 11 := by rw [← had]; rfl
  have a16 : ad 16 = r9 12 := by rw [← had]; rfl
  have a17 : ad 17 = r9 13 := by rw [← had]; rfl
  have a18 : ad 18 = r9 14 := by rw [← had]; rfl
  have a19 : ad 19 = r9 15 := by rw [← had]; rfl
  have a20 : ad 20 = r9 16 := by rw [← had]; rfl
  have a21 : ad 21 = r9 17 := by rw [← had]; rfl
  have a22 : ad 22 = r9 18 := by rw [← had]; rfl
  have a23 : ad 23 = r9 19 := by rw [← had]; rfl
  have a24 : ad 24 = r9 20 := by rw [← had]; rfl
  have a25 : ad 25 = r9 21 := by rw [← had]; rfl
  have a26 : ad 26 = r9 22 := by rw [← had]; rfl
  have a27 : ad 27 = r9 23 := by rw [← had]; rfl
  have a28 : ad 28 = r9 24 := by rw [← had]; rfl
  have a29 : ad 29 = r9 25 := by rw [← had]; rfl
  have a30 : ad 30 = r9 26 := by rw [← had]; rfl
  have a31 : ad 31 = r9 27 := by rw [← had]; rfl
  have a32 : ad 32 = r9 28 := by rw [← had]; rfl
  have a33 : ad 33 = r9 29 := by rw [← had]; rfl
  have a34 : ad 34 = r9 30 := by rw [← had]; rfl
  have a35 : ad 35 = r9 31 := by rw [← had]; rfl
  have a36 : ad 36 = qV := by rw [← had]; rfl
  have a37 : ad 37 = uV := by rw [← had]; rfl
  have a38 : ad 38 = vV := by rw [← had]; rfl
  have a39 : ad 39 = qN := by rw [← had]; rfl
  have a40 : ad 40 = uN := by rw [← had]; rfl
  have a41 : ad 41 = vN := by rw [← had]; rfl
  have a42 : ad 42 = qG := by rw [← had]; rfl
  have a43 : ad 43 = uG := by rw [← had]; rfl
  have a44 : ad 44 = vG := by rw [← had]; rfl
  have a45 : ad 45 = qH := by rw [← had]; rfl
  have a46 : ad 46 = uH := by rw [← had]; rfl
  have a47 : ad 47 = vH := by rw [← had]; rfl
  have a48 : ad 48 = qp := by rw [← had]; rfl
  have a49 : ad 49 = qu := by rw [← had]; rfl
  have a50 : ad 50 = qC := by rw [← had]; rfl
  have a51 : ad 51 = uC := by rw [← had]; rfl
  have a52 : ad 52 = qP := by rw [← had]; rfl
  have a53 : ad 53 = qs := by rw [← had]; rfl
  have a54 : ad 54 = qX := by rw [← had]; rfl
  have a55 : ad 55 = uX := by rw [← had]; rfl
  have a56 : ad 56 = ssX := by rw [← had]; rfl
  have a57 : ad 57 = vX := by rw [← had]; rfl
  have a58 : ad 58 = aX := by rw [← had]; rfl
  have a59 : ad 59 = ttX := by rw [← had]; rfl
  have a60 : ad 60 = bX := by rw [← had]; rfl
  have a61 : ad 61 = yyX := by rw [← had]; rfl
  have a62 : ad 62 = cX := by rw [← had]; rfl
  have a63 : ad 63 = zzX := by rw [← had]; rfl
  have a64 : ad 64 = qY := by rw [← had]; rfl
  have a65 : ad 65 = uY := by rw [← had]; rfl
  have a66 : ad 66 = ssY := by rw [← had]; rfl
  have a67 : ad 67 = vY := by rw [← had]; rfl
  have a68 : ad 68 = aY := by rw [← had]; rfl
  have a69 : ad 69 = ttY := by rw [← had]; rfl
  have a70 : ad 70 = bY := by rw [← had]; rfl
  have a71 : ad 71 = yyY := by rw [← had]; rfl
  have a72 : ad 72 = cY := by rw [← had]; rfl
  have a73 : ad 73 = zzY := by rw [← had]; rfl
  have a74 : ad 74 = qZ := by rw [← had]; rfl
  have a75 : ad 75 = uZ := by rw [← had]; rfl
  have a76 : ad 76 = ssZ := by rw [← had]; rfl
  have a77 : ad 77 = vZ := by rw [← had]; rfl
  have a78 : ad 78 = aZ := by rw [← had]; rfl
  have a79 : ad 79 = ttZ := by rw [← had]; rfl
  have a80 : ad 80 = bZ := by rw [← had]; rfl
  have a81 : ad 81 = yyZ := by rw [← had]; rfl
  have a82 : ad 82 = cZ := by rw [← had]; rfl
  have a83 : ad 83 = zzZ := by rw [← had]; rfl
  have a84 : ad 84 = qr := by rw [← had]; rfl
  have a85 : ad 85 = qI := by rw [← had]; rfl
  have a86 : ad 86 = i1 := by rw [← had]; rfl
  have a87 : ad 87 = i2 := by rw [← had]; rfl
  have a88 : ad 88 = i3 := by rw [← had]; rfl
  have a89 : ad 89 = i4 := by rw [← had]; rfl
  have a90 : ad 90 = i5 := by rw [← had]; rfl
  have a91 : ad 91 = qO := by rw [← had]; rfl
  have a92 : ad 92 = o1 := by rw [← had]; rfl
  have a93 : ad 93 = o2 := by rw [← had]; rfl
  have a94 : ad 94 = qL := by rw [← had]; rfl
  have a95 : ad 95 = l1 := by rw [← had]; rfl
  have a96 : ad 96 = rl 0 := by rw [← had]; rfl
  have a97 : ad 97 = rl 1 := by rw [← had]; rfl
  have a98 : ad 98 = rl 2 := by rw [← had]; rfl
  have a99 : ad 99 = rl 3 := by rw [← had]; rfl
  have a100 : ad 100 = rl 4 := by rw [← had]; rfl
  have a101 : ad 101 = rl 5 := by rw [← had]; rfl
  have a102 : ad 102 = rl 6 := by rw [← had]; rfl
  have a103 : ad 103 = rl 7 := by rw [← had]; rfl
  have a104 : ad 104 = qF := by rw [← had]; rfl
  have a105 : ad 105 = f1 := by rw [← had]; rfl
  have a106 : ad 106 = f2 := by rw [← had]; rfl
  have a107 : ad 107 = f3 := by rw [← had]; rfl
  have a108 : ad 108 = qc := by rw [← had]; rfl
  have y0 : n_sim [(h0, .inr (9, [.ref qD, .ref qV, .ref qN, .ref qC, .ref qP, .ref qs, .ref qr, .int 0, .ref qp, .ref qu, .ref qI, .ref qO, .ref qL, .ref qF, .ref qc, .int 0]))] (s_w dA ad 0 1 mc0) := n_one la_0 a0 (by show (Sum.inr (9, [Value.ref (ad 1), Value.ref (ad 36), Value.ref (ad 39), Value.ref (ad 50), Value.ref (ad 52), Value.ref (ad 53), Value.ref (ad 84), Value.int 0, Value.ref (ad 48), Value.ref (ad 49), Value.ref (ad 85), Value.ref (ad 91), Value.ref (ad 94), Value.ref (ad 104), Value.ref (ad 108), Value.int 0]) : va_E) = _; rw [a1, a36, a39, a50, a52, a53, a84, a48, a49, a85, a91, a94, a104, a108])
  have z0 : n_sim ([(h0, .inr (9, [.ref qD, .ref qV, .ref qN, .ref qC, .ref qP, .ref qs, .ref qr, .int 0, .ref qp, .ref qu, .ref qI, .ref qO, .ref qL, .ref qF, .ref qc, .int 0]))]) (s_w dA ad 0 1 mc0) := by
    exact y0
  have y1 : n_sim [(qD, .inr (1, [.ref q9, .ref q19]))] (s_w dA ad 1 1 mc0) := n_one la_1 a1 (by show (Sum.inr (1, [Value.ref (ad 2), Value.ref (ad 3)]) : va_E) = _; rw [a2, a3])
  have z1 : n_sim ([(qD, .inr (1, [.ref q9, .ref q19]))]) (s_w dA ad 1 1 mc0) := by
    exact y1
  have y2 : n_sim [(q9, .inl (dA 6, (32, .inr (.inr (.inr (.inr (fun i => some (r9 i))))))))] (s_w dA ad 2 1 mc0) := n_oneR la_2 a2 (fun i hi => by
      rcases (show i = 0 ∨ i = 1 ∨ i = 2 ∨ i = 3 ∨ i = 4 ∨ i = 5 ∨ i = 6 ∨ i = 7 ∨ i = 8 ∨ i = 9 ∨ i = 10 ∨ i = 11 ∨ i = 12 ∨ i = 13 ∨ i = 14 ∨ i = 15 ∨ i = 16 ∨ i = 17 ∨ i = 18 ∨ i = 19 ∨ i = 20 ∨ i = 21 ∨ i = 22 ∨ i = 23 ∨ i = 24 ∨ i = 25 ∨ i = 26 ∨ i = 27 ∨ i = 28 ∨ i = 29 ∨ i = 30 ∨ i = 31 by omega) with rfl | rfl | rfl | rfl | rfl | rfl | rfl | rfl | rfl | rfl | rfl | rfl | rfl | rfl | rfl | rfl | rfl | rfl | rfl | rfl | rfl | rfl | rfl | rfl | rfl | rfl | rfl | rfl | rfl | rfl | rfl | rfl
      · exact congrArg some a4.symm
      · exact congrArg some a5.symm
      · exact congrArg some a6.symm
      · exact congrArg some a7.symm
      · exact congrArg some a8.symm
      · exact congrArg some a9.symm
      · exact congrArg some a10.symm
      · exact congrArg some a11.symm
      · exact congrArg some a12.symm
      · exact congrArg some a13.symm
      · exact congrArg some a14.symm
      · exact congrArg some a15.symm
      · exact congrArg some a16.symm
      · exact congrArg some a17.symm
      · exact congrArg some a18.symm
      · exact congrArg some a19.symm
      · exact congrArg some a20.symm
      · exact congrArg some a21.symm
      · exact congrArg some a22.symm
      · exact congrArg some a23.symm
      · exact congrArg some a24.symm
      · exact congrArg some a25.symm
      · exact congrArg some a26.symm
      · exact congrArg some a27.symm
      · exact congrArg some a28.symm
      · exact congrArg some a29.symm
      · exact congrArg some a30.symm
      · exact congrArg some a31.symm
      · exact congrArg some a32.symm
      · exact congrArg some a33.symm
      · exact congrArg some a34.symm
      · exact congrArg some a35.symm)
  have z2 : n_sim ([(q9, .inl (dA 6, (32, .inr (.inr (.inr (.inr (fun i => some (r9 i)))))))) ]) (s_w dA ad 2 1 mc0) := by
    exact y2
  have y3 : n_sim [(q19, .inl (dA 0, (13, .inl (fun _ => 0))))] (s_w dA ad 3 1 mc0) := n_one la_3 a3 rfl
  have z3 : n_sim ([(q19, .inl (dA 0, (13, .inl (fun _ => 0))))]) (s_w dA ad 3 1 mc0) := by
    exact y3
  have y4 : n_sim [(r9 0, .inl (dA 0, (13, .inl (fun _ => 0))))] (s_w dA ad 4 1 mc0) := n_one la_4 a4 rfl
  have y5 : n_sim [(r9 1, .inl (dA 0, (13, .inl (fun _ => 0))))] (s_w dA ad 5 1 mc0) := n_one la_5 a5 rfl
  have y6 : n_sim [(r9 2, .inl (dA 0, (13, .inl (fun _ => 0))))] (s_w dA ad 6 1 mc0) := n_one la_6 a6 rfl
  have y7 : n_sim [(r9 3, .inl (dA 0, (13, .inl (fun _ => 0))))] (s_w dA ad 7 1 mc0) := n_one la_7 a7 rfl
  have y8 : n_sim [(r9 4, .inl (dA 0, (13, .inl (fun _ => 0))))] (s_w dA ad 8 1 mc0) := n_one la_8 a8 rfl
  have y9 : n_sim [(r9 5, .inl (dA 0, (13, .inl (fun _ => 0))))] (s_w dA ad 9 1 mc0) := n_one la_9 a9 rfl
  have y10 : n_sim [(r9 6, .inl (dA 0, (13, .inl (fun _ => 0))))] (s_w dA ad 10 1 mc0) := n_one la_10 a10 rfl
  have y11 : n_sim [(r9 7, .inl (dA 0, (13, .inl (fun _ => 0))))] (s_w dA ad 11 1 mc0) := n_one la_11 a11 rfl
  have y12 : n_sim [(r9 8, .inl (dA 0, (13, .inl (fun _ => 0))))] (s_w dA ad 12 1 mc0) := n_one la_12 a12 rfl
  have y13 : n_sim [(r9 9, .inl (dA 0, (13, .inl (fun _ => 0))))] (s_w dA ad 13 1 mc0) := n_one la_13 a13 rfl
  have y14 : n_sim [(r9 10, .inl (dA 0, (13, .inl (fun _ => 0))))] (s_w dA ad 14 1 mc0) := n_one la_14 a14 rfl
  have y15 : n_sim [(r9 11, .inl (dA 0, (13, .inl (fun _ => 0))))] (s_w dA ad 15 1 mc0) := n_one la_15 a15 rfl
  have y16 : n_sim [(r9 12, .inl (dA 0, (13, .inl (fun _ => 0))))] (s_w dA ad 16 1 mc0) := n_one la_16 a16 rfl
  have y17 : n_sim [(r9 13, .inl (dA 0, (13, .inl (fun _ => 0))))] (s_w dA ad 17 1 mc0) := n_one la_17 a17 rfl
  have y18 : n_sim [(r9 14, .inl (dA 0, (13, .inl (fun _ => 0))))] (s_w dA ad 18 1 mc0) := n_one la_18 a18 rfl
  have y19 : n_sim [(r9 15, .inl (dA 0, (13, .inl (fun _ => 0))))] (s_w dA ad 19 1 mc0) := n_one la_19 a19 rfl
  have y20 : n_sim [(r9 16, .inl (dA 0, (13, .inl (fun _ => 0))))] (s_w dA ad 20 1 mc0) := n_one la_20 a20 rfl
  have y21 : n_sim [(r9 17, .inl (dA 0, (13, .inl (fun _ => 0))))] (s_w dA ad 21 1 mc0) := n_one la_21 a21 rfl
  have y22 : n_sim [(r9 18, .inl (dA 0, (13, .inl (fun _ => 0))))] (s_w dA ad 22 1 mc0) := n_one la_22 a22 rfl
  have y23 : n_sim [(r9 19, .inl (dA 0, (13, .inl (fun _ => 0))))] (s_w dA ad 23 1 mc0) := n_one la_23 a23 rfl
  have y24 : n_sim [(r9 20, .inl (dA 0, (13, .inl (fun _ => 0))))] (s_w dA ad 24 1 mc0) := n_one la_24 a24 rfl
  have y25 : n_sim [(r9 21, .inl (dA 0, (13, .inl (fun _ => 0))))] (s_w dA ad 25 1 mc0) := n_one la_25 a25 rfl
  have y26 : n_sim [(r9 22, .inl (dA 0, (13, .inl (fun _ => 0))))] (s_w dA ad 26 1 mc0) := n_one la_26 a26 rfl
  have y27 : n_sim [(r9 23, .inl (dA 0, (13, .inl (fun _ => 0))))] (s_w dA ad 27 1 mc0) := n_one la_27 a27 rfl
  have y28 : n_sim [(r9 24, .inl (dA 0, (13, .inl (fun _ => 0))))] (s_w dA ad 28 1 mc0) := n_one la_28 a28 rfl
  have y29 : n_sim [(r9 25, .inl (dA 0, (13, .inl (fun _ => 0))))] (s_w dA ad 29 1 mc0) := n_one la_29 a29 rfl
  have y30 : n_sim [(r9 26, .inl (dA 0, (13, .inl (fun _ => 0))))] (s_w dA ad 30 1 mc0) := n_one la_30 a30 rfl
  have y31 : n_sim [(r9 27, .inl (dA 0, (13, .inl (fun _ => 0))))] (s_w dA ad 31 1 mc0) := n_one la_31 a31 rfl
  have y32 : n_sim [(r9 28, .inl (dA 0, (13, .inl (fun _ => 0))))] (s_w dA ad 32 1 mc0) := n_one la_32 a32 rfl
  have y33 : n_sim [(r9 29, .inl (dA 0, (13, .inl (fun _ => 0))))] (s_w dA ad 33 1 mc0) := n_one la_33 a33 rfl
  have y34 : n_sim [(r9 30, .inl (dA 0, (13, .inl (fun _ => 0))))] (s_w dA ad 34 1 mc0) := n_one la_34 a34 rfl
  have y35 : n_sim [(r9 31, .inl (dA 0, (13, .inl (fun _ => 0))))] (s_w dA ad 35 1 mc0) := n_one la_35 a35 rfl
  have z4 : n_sim ([(r9 0, .inl (dA 0, (13, .inl (fun _ => 0)))), (r9 1, .inl (dA 0, (13, .inl (fun _ => 0)))), (r9 2, .inl (dA 0, (13, .inl (fun _ => 0)))), (r9 3, .inl (dA 0, (13, .inl (fun _ => 0)))), (r9 4, .inl (dA 0, (13, .inl (fun _ => 0)))), (r9 5, .inl (dA 0, (13, .inl (fun _ => 0)))), (r9 6, .inl (dA 0, (13, .inl (fun _ => 0)))), (r9 7, .inl (dA 0, (13, .inl (fun _ => 0)))), (r9 8, .inl (dA 0, (13, .inl (fun _ => 0)))), (r9 9, .inl (dA 0, (13, .inl (fun _ => 0)))), (r9 10, .inl (dA 0, (13, .inl (fun _ => 0)))), (r9 11, .inl (dA 0, (13, .inl (fun _ => 0)))), (r9 12, .inl (dA 0, (13, .inl (fun _ => 0)))), (r9 13, .inl (dA 0, (13, .inl (fun _ => 0)))), (r9 14, .inl (dA 0, (13, .inl (fun _ => 0)))), (r9 15, .inl (dA 0, (13, .inl (fun _ => 0)))), (r9 16, .inl (dA 0, (13, .inl (fun _ => 0)))), (r9 17, .inl (dA 0, (13, .inl (fun _ => 0)))), (r9 18, .inl (dA 0, (13, .inl (fun _ => 0)))), (r9 19, .inl (dA 0, (13, .inl (fun _ => 0)))), (r9 20, .inl (dA 0, (13, .inl (fun _ => 0)))), (r9 21, .inl (dA 0, (13, .inl (fun _ => 0)))), (r9 22, .inl (dA 0, (13, .inl (fun _ => 0)))), (r9 23, .inl (dA 0, (13, .inl (fun _ => 0)))), (r9 24, .inl (dA 0, (13, .inl (fun _ => 0)))), (r9 25, .inl (dA 0, (13, .inl (fun _ => 0)))), (r9 26, .inl (dA 0, (13, .inl (fun _ => 0)))), (r9 27, .inl (dA 0, (13, .inl (fun _ => 0)))), (r9 28, .inl (dA 0, (13, .inl (fun _ => 0)))), (r9 29, .inl (dA 0, (13, .inl (fun _ => 0)))), (r9 30, .inl (dA 0, (13, .inl (fun _ => 0)))), (r9 31, .inl (dA 0, (13, .inl (fun _ => 0))))]) (s_w dA ad 4 32 mc0) := by
    exact n_sim_cat (a := 1) (b := 31) y4 (n_sim_cat (a := 1) (b := 30) y5 (n_sim_cat (a := 1) (b := 29) y6 (n_sim_cat (a := 1) (b := 28) y7 (n_sim_cat (a := 1) (b := 27) y8 (n_sim_cat (a := 1) (b := 26) y9 (n_sim_cat (a := 1) (b := 25) y10 (n_sim_cat (a := 1) (b := 24) y11 (n_sim_cat (a := 1) (b := 23) y12 (n_sim_cat (a := 1) (b := 22) y13 (n_sim_cat (a := 1) (b := 21) y14 (n_sim_cat (a := 1) (b := 20) y15 (n_sim_cat (a := 1) (b := 19) y16 (n_sim_cat (a := 1) (b := 18) y17 (n_sim_cat (a := 1) (b := 17) y18 (n_sim_cat (a := 1) (b := 16) y19 (n_sim_cat (a := 1) (b := 15) y20 (n_sim_cat (a := 1) (b := 14) y21 (n_sim_cat (a := 1) (b := 13) y22 (n_sim_cat (a := 1) (b := 12) y23 (n_sim_cat (a := 1) (b := 11) y24 (n_sim_cat (a := 1) (b := 10) y25 (n_sim_cat (a := 1) (b := 9) y26 (n_sim_cat (a := 1) (b := 8) y27 (n_sim_cat (a := 1) (b := 7) y28 (n_sim_cat (a := 1) (b := 6) y29 (n_sim_cat (a := 1) (b := 5) y30 (n_sim_cat (a := 1) (b := 4) y31 (n_sim_cat (a := 1) (b := 3) y32 (n_sim_cat (a := 1) (b := 2) y33 (n_sim_cat (a := 1) (b := 1) y34 (y35)))))))))))))))))))))))))))))))
  have y36 : n_sim [(qV, .inr (8, [.ref uV, .ref vV, .long 0, .int 0, .int 0, .int 2]))] (s_w dA ad 36 1 mc0) := n_one la_36 a36 (by show (Sum.inr (8, [Value.ref (ad 37), Value.ref (ad 38), Value.long 0, Value.int 0, Value.int 0, Value.int 2]) : va_E) = _; rw [a37, a38])
  have y37 : n_sim [(uV, .inl (dA 0, (8, .inl (fun _ => 0))))] (s_w dA ad 37 1 mc0) := n_one la_37 a37 rfl
  have y38 : n_sim [(vV, .inl (dA 0, (64, .inl (fun _ => 0))))] (s_w dA ad 38 1 mc0) := n_one la_38 a38 rfl
  have z5 : n_sim (wV) (s_w dA ad 36 3 mc0) := by
    rw [eV]; exact n_sim_cat (a := 1) (b := 2) y36 (n_sim_cat (a := 1) (b := 1) y37 (y38))
  have y39 : n_sim [(qN, .inr (8, [.ref uN, .ref vN, .long 0, .int 0, .int 0, .int 2]))] (s_w dA ad 39 1 mc0) := n_one la_39 a39 (by show (Sum.inr (8, [Value.ref (ad 40), Value.ref (ad 41), Value.long 0, Value.int 0, Value.int 0, Value.int 2]) : va_E) = _; rw [a40, a41])
  have y40 : n_sim [(uN, .inl (dA 0, (8, .inl (fun _ => 0))))] (s_w dA ad 40 1 mc0) := n_one la_40 a40 rfl
  have y41 : n_sim [(vN, .inl (dA 0, (64, .inl (fun _ => 0))))] (s_w dA ad 41 1 mc0) := n_one la_41 a41 rfl
  have z6 : n_sim (wN) (s_w dA ad 39 3 mc0) := by
    rw [eN]; exact n_sim_cat (a := 1) (b := 2) y39 (n_sim_cat (a := 1) (b := 1) y40 (y41))
  have y42 : n_sim [(qG, .inr (8, [.ref uG, .ref vG, .long 0, .int 0, .int 0, .int 2]))] (s_w dA ad 42 1 mc0) := n_one la_42 a42 (by show (Sum.inr (8, [Value.ref (ad 43), Value.ref (ad 44), Value.long 0, Value.int 0, Value.int 0, Value.int 2]) : va_E) = _; rw [a43, a44])
  have y43 : n_sim [(uG, .inl (dA 0, (8, .inl (fun _ => 0))))] (s_w dA ad 43 1 mc0) := n_one la_43 a43 rfl
  have y44 : n_sim [(vG, .inl (dA 0, (64, .inl (fun _ => 0))))] (s_w dA ad 44 1 mc0) := n_one la_44 a44 rfl
  have z7 : n_sim (wG) (s_w dA ad 42 3 mc0) := by
    rw [eG]; exact n_sim_cat (a := 1) (b := 2) y42 (n_sim_cat (a := 1) (b := 1) y43 (y44))
  have y45 : n_sim [(qH, .inr (8, [.ref uH, .ref vH, .long 0, .int 0, .int 0, .int 2]))] (s_w dA ad 45 1 mc0) := n_one la_45 a45 (by show (Sum.inr (8, [Value.ref (ad 46), Value.ref (ad 47), Value.long 0, Value.int 0, Value.int 0, Value.int 2]) : va_E) = _; rw [a46, a47])
  have y46 : n_sim [(uH, .inl (dA 0, (8, .inl (fun _ => 0))))] (s_w dA ad 46 1 mc0) := n_one la_46 a46 rfl
  have y47 : n_sim [(vH, .inl (dA 0, (64, .inl (fun _ => 0))))] (s_w dA ad 47 1 mc0) := n_one la_47 a47 rfl
  have z8 : n_sim (wH) (s_w dA ad 45 3 mc0) := by
    rw [eH]; exact n_sim_cat (a := 1) (b := 2) y45 (n_sim_cat (a := 1) (b := 1) y46 (y47))
  have y48 : n_sim [(qp, .inl (dA 5, 2, .inr (.inr (.inr (.inr (va_up (va_up (fun _ => none) 0 (some qG)) 1 (some qH)))))))] (s_w dA ad 48 1 mc0) := n_oneR la_48 a48 (fun i hi => by
      rcases (show i = 0 ∨ i = 1 by omega) with rfl | rfl
      · exact congrArg some a42.symm
      · exact congrArg some a45.symm)
  have z9 : n_sim ([(qp, .inl (dA 5, 2, .inr (.inr (.inr (.inr (va_up (va_up (fun _ => none) 0 (some qG)) 1 (some qH)))))))]) (s_w dA ad 48 1 mc0) := by
    exact y48
  have y49 : n_sim [(qu, .inl (dA 1, (2, .inl (fun _ => 0))))] (s_w dA ad 49 1 mc0) := n_one la_49 a49 rfl
  have z10 : n_sim ([(qu, .inl (dA 1, (2, .inl (fun _ => 0))))]) (s_w dA ad 49 1 mc0) := by
    exact y49
  have y50 : n_sim [(qC, .inr (0, [.ref uC, .long 0, .long 0]))] (s_w dA ad 50 1 mc0) := n_one la_50 a50 (by show (Sum.inr (0, [Value.ref (ad 51), Value.long 0, Value.long 0]) : va_E) = _; rw [a51])
  have y51 : n_sim [(uC, .inl (dA 0, (64, .inl (fun _ => 0))))] (s_w dA ad 51 1 mc0) := n_one la_51 a51 rfl
  have z11 : n_sim (wC) (s_w dA ad 50 2 mc0) := by
    rw [eC]; exact n_sim_cat (a := 1) (b := 1) y50 (y51)
  have y52 : n_sim [(qP, .inr (5, [.int (-1), .int 0, .int 0]))] (s_w dA ad 52 1 mc0) := n_one la_52 a52 (by show (Sum.inr (5, [Value.int (-1), Value.int 0, Value.int 0]) : va_E) = _; rfl)
  have z12 : n_sim (wP) (s_w dA ad 52 1 mc0) := by
    rw [eP]; exact y52
  have y53 : n_sim [(qs, .inl (dA 3, 3, .inr (.inr (.inr (.inr (va_up (va_up (va_up (fun _ => none) 0 (some qX)) 1 (some qY)) 2 (some qZ)))))))] (s_w dA ad 53 1 mc0) := n_oneR la_53 a53 (fun i hi => by
      rcases (show i = 0 ∨ i = 1 ∨ i = 2 by omega) with rfl | rfl | rfl
      · exact congrArg some a54.symm
      · exact congrArg some a64.symm
      · exact congrArg some a74.symm)
  have z13 : n_sim ([(qs, .inl (dA 3, 3, .inr (.inr (.inr (.inr (va_up (va_up (va_up (fun _ => none) 0 (some qX)) 1 (some qY)) 2 (some qZ)))))))]) (s_w dA ad 53 1 mc0) := by
    exact y53
  have y54 : n_sim [(qX, .inr (7, [.ref uX, .ref vX, .int 0, .int 0]))] (s_w dA ad 54 1 mc0) := n_one la_54 a54 (by show (Sum.inr (7, [Value.ref (ad 55), Value.ref (ad 57), Value.int 0, Value.int 0]) : va_E) = _; rw [a55, a57])
  have z14 : n_sim ([(qX, .inr (7, [.ref uX, .ref vX, .int 0, .int 0]))]) (s_w dA ad 54 1 mc0) := by
    exact y54
  have y55 : n_sim [(uX, .inr (0, [.ref ssX, .long 0, .long 0]))] (s_w dA ad 55 1 mc0) := n_one la_55 a55 (by show (Sum.inr (0, [Value.ref (ad 56), Value.long 0, Value.long 0]) : va_E) = _; rw [a56])
  have y56 : n_sim [(ssX, .inl (dA 0, (64, .inl (fun _ => 0))))] (s_w dA ad 56 1 mc0) := n_one la_56 a56 rfl
  have z15 : n_sim (sX) (s_w dA ad 55 2 mc0) := by
    rw [esX]; exact n_sim_cat (a := 1) (b := 1) y55 (y56)
  have y57 : n_sim [(vX, .inl (dA 4, 3, .inr (.inr (.inr (.inr (va_up (va_up (va_up (fun _ => none) 0 (some aX)) 1 (some bX)) 2 (some cX)))))))] (s_w dA ad 57 1 mc0) := n_oneR la_57 a57 (fun i hi => by
      rcases (show i = 0 ∨ i = 1 ∨ i = 2 by omega) with rfl | rfl | rfl
      · exact congrArg some a58.symm
      · exact congrArg some a60.symm
      · exact congrArg some a62.symm)
  have z16 : n_sim ([(vX, .inl (dA 4, 3, .inr (.inr (.inr (.inr (va_up (va_up (va_up (fun _ => none) 0 (some aX)) 1 (some bX)) 2 (some cX))))))) ]) (s_w dA ad 57 1 mc0) := by
    exact y57
  have y58 : n_sim [(aX, .inr (0, [.ref ttX, .long 0, .long 0]))] (s_w dA ad 58 1 mc0) := n_one la_58 a58 (by show (Sum.inr (0, [Value.ref (ad 59), Value.long 0, Value.long 0]) : va_E) = _; rw [a59])
  have y59 : n_sim [(ttX, .inl (dA 0, (64, .inl (fun _ => 0))))] (s_w dA ad 59 1 mc0) := n_one la_59 a59 rfl
  have z17 : n_sim (tX) (s_w dA ad 58 2 mc0) := by
    rw [etX]; exact n_sim_cat (a := 1) (b := 1) y58 (y59)
  have y60 : n_sim [(bX, .inr (0, [.ref yyX, .long 0, .long 0]))] (s_w dA ad 60 1 mc0) := n_one la_60 a60 (by show (Sum.inr (0, [Value.ref (ad 61), Value.long 0, Value.long 0]) : va_E) = _; rw [a61])
  have y61 : n_sim [(yyX, .inl (dA 0, (64, .inl (fun _ => 0))))] (s_w dA ad 61 1 mc0) := n_one la_61 a61 rfl
  have z18 : n_sim (yX) (s_w dA ad 60 2 mc0) := by
    rw [eyX]; exact n_sim_cat (a := 1) (b := 1) y60 (y61)
  have y62 : n_sim [(cX, .inr (0, [.ref zzX, .long 0, .long 0]))] (s_w dA ad 62 1 mc0) := n_one la_62 a62 (by show (Sum.inr (0, [Value.ref (ad 63), Value.long 0, Value.long 0]) : va_E) = _; rw [a63])
  have y63 : n_sim [(zzX, .inl (dA 0, (64, .inl (fun _ => 0))))] (s_w dA ad 63 1 mc0) := n_one la_63 a63 rfl
  have z19 : n_sim (zX) (s_w dA ad 62 2 mc0) := by
    rw [ezX]; exact n_sim_cat (a := 1) (b := 1) y62 (y63)
  have y64 : n_sim [(qY, .inr (7, [.ref uY, .ref vY, .int 0, .int 0]))] (s_w dA ad 64 1 mc0) := n_one la_64 a64 (by show (Sum.inr (7, [Value.ref (ad 65), Value.ref (ad 67), Value.int 0, Value.int 0]) : va_E) = _; rw [a65, a67])
  have z20 : n_sim ([(qY, .inr (7, [.ref uY, .ref vY, .int 0, .int 0]))]) (s_w dA ad 64 1 mc0) := by
    exact y64
  have y65 : n_sim [(uY, .inr (0, [.ref ssY, .long 0, .long 0]))] (s_w dA ad 65 1 mc0) := n_one la_65 a65 (by show (Sum.inr (0, [Value.ref (ad 66), Value.long 0, Value.long 0]) : va_E) = _; rw [a66])
  have y66 : n_sim [(ssY, .inl (dA 0, (64, .inl (fun _ => 0))))] (s_w dA ad 66 1 mc0) := n_one la_66 a66 rfl
  have z21 : n_sim (sY) (s_w dA ad 65 2 mc0) := by
    rw [esY]; exact n_sim_cat (a := 1) (b := 1) y65 (y66)
  have y67 : n_sim [(vY, .inl (dA 4, 3, .inr (.inr (.inr (.inr (va_up (va_up (va_up (fun _ => none) 0 (some aY)) 1 (some bY)) 2 (some cY)))))))] (s_w dA ad 67 1 mc0) := n_oneR la_67 a67 (fun i hi => by
      rcases (show i = 0 ∨ i = 1 ∨ i = 2 by omega) with rfl | rfl | rfl
      · exact congrArg some a68.symm
      · exact congrArg some a70.symm
      · exact congrArg some a72.symm)
  have z22 : n_sim ([(vY, .inl (dA 4, 3, .inr (.inr (.inr (.inr (va_up (va_up (va_up (fun _ => none) 0 (some aY)) 1 (some bY)) 2 (some cY))))))) ]) (s_w dA ad 67 1 mc0) := by
    exact y67
  have y68 : n_sim [(aY, .inr (0, [.ref ttY, .long 0, .long 0]))] (s_w dA ad 68 1 mc0) := n_one la_68 a68 (by show (Sum.inr (0, [Value.ref (ad 69), Value.long 0, Value.long 0]) : va_E) = _; rw [a69])
  have y69 : n_sim [(ttY, .inl (dA 0, (64, .inl (fun _ => 0))))] (s_w dA ad 69 1 mc0) := n_one la_69 a69 rfl
  have z23 : n_sim (tY) (s_w dA ad 68 2 mc0) := by
    rw [etY]; exact n_sim_cat (a := 1) (b := 1) y68 (y69)
  have y70 : n_sim [(bY, .inr (0, [.ref yyY, .long 0, .long 0]))] (s_w dA ad 70 1 mc0) := n_one la_70 a70 (by show (Sum.inr (0, [Value.ref (ad 71), Value.long 0, Value.long 0]) : va_E) = _; rw [a71])
  have y71 : n_sim [(yyY, .inl (dA 0, (64, .inl (fun _ => 0))))] (s_w dA ad 71 1 mc0) := n_one la_71 a71 rfl
  have z24 : n_sim (yY) (s_w dA ad 70 2 mc0) := by
    rw [eyY]; exact n_sim_cat (a := 1) (b := 1) y70 (y71)
  have y72 : n_sim [(cY, .inr (0, [.ref zzY, .long 0, .long 0]))] (s_w dA ad 72 1 mc0) := n_one la_72 a72 (by show (Sum.inr (0, [Value.ref (ad 73), Value.long 0, Value.long 0]) : va_E) = _; rw [a73])
  have y73 : n_sim [(zzY, .inl (dA 0, (64, .inl (fun _ => 0))))] (s_w dA ad 73 1 mc0) := n_one la_73 a73 rfl
  have z25 : n_sim (zY) (s_w dA ad 72 2 mc0) := by
    rw [ezY]; exact n_sim_cat (a := 1) (b := 1) y72 (y73)
  have y74 : n_sim [(qZ, .inr (7, [.ref uZ, .ref vZ, .int 0, .int 0]))] (s_w dA ad 74 1 mc0) := n_one la_74 a74 (by show (Sum.inr (7, [Value.ref (ad 75), Value.ref (ad 77), Value.int 0, Value.int 0]) : va_E) = _; rw [a75, a77])
  have z26 : n_sim ([(qZ, .inr (7, [.ref uZ, .ref vZ, .int 0, .int 0]))]) (s_w dA ad 74 1 mc0) := by
    exact y74
  have y75 : n_sim [(uZ, .inr (0, [.ref ssZ, .long 0, .long 0]))] (s_w dA ad 75 1 mc0) := n_one la_75 a75 (by show (Sum.inr (0, [Value.ref (ad 76), Value.long 0, Value.long 0]) : va_E) = _; rw [a76])
  have y76 : n_sim [(ssZ, .inl (dA 0, (64, .inl (fun _ => 0))))] (s_w dA ad 76 1 mc0) := n_one la_76 a76 rfl
  have z27 : n_sim (sZ) (s_w dA ad 75 2 mc0) := by
    rw [esZ]; exact n_sim_cat (a := 1) (b := 1) y75 (y76)
  have y77 : n_sim [(vZ, .inl (dA 4, 3, .inr (.inr (.inr (.inr (va_up (va_up (va_up (fun _ => none) 0 (some aZ)) 1 (some bZ)) 2 (some cZ)))))))] (s_w dA ad 77 1 mc0) := n_oneR la_77 a77 (fun i hi => by
      rcases (show i = 0 ∨ i = 1 ∨ i = 2 by omega) with rfl | rfl | rfl
      · exact congrArg some a78.symm
      · exact congrArg some a80.symm
      · exact congrArg some a82.symm)
  have z28 : n_sim ([(vZ, .inl (dA 4, 3, .inr (.inr (.inr (.inr (va_up (va_up (va_up (fun _ => none) 0 (some aZ)) 1 (some bZ)) 2 (some cZ))))))) ]) (s_w dA ad 77 1 mc0) := by
    exact y77
  have y78 : n_sim [(aZ, .inr (0, [.ref ttZ, .long 0, .long 0]))] (s_w dA ad 78 1 mc0) := n_one la_78 a78 (by show (Sum.inr (0, [Value.ref (ad 79), Value.long 0, Value.long 0]) : va_E) = _; rw [a79])
  have y79 : n_sim [(ttZ, .inl (dA 0, (64, .inl (fun _ => 0))))] (s_w dA ad 79 1 mc0) := n_one la_79 a79 rfl
  have z29 : n_sim (tZ) (s_w dA ad 78 2 mc0) := by
    rw [etZ]; exact n_sim_cat (a := 1) (b := 1) y78 (y79)
  have y80 : n_sim [(bZ, .inr (0, [.ref yyZ, .long 0, .long 0]))] (s_w dA ad 80 1 mc0) := n_one la_80 a80 (by show (Sum.inr (0, [Value.ref (ad 81), Value.long 0, Value.long 0]) : va_E) = _; rw [a81])
  have y81 : n_sim [(yyZ, .inl (dA 0, (64, .inl (fun _ => 0))))] (s_w dA ad 81 1 mc0) := n_one la_81 a81 rfl
  have z30 : n_sim (yZ) (s_w dA ad 80 2 mc0) := by
    rw [eyZ]; exact n_sim_cat (a := 1) (b := 1) y80 (y81)
  have y82 : n_sim [(cZ, .inr (0, [.ref zzZ, .long 0, .long 0]))] (s_w dA ad 82 1 mc0) := n_one la_82 a82 (by show (Sum.inr (0, [Value.ref (ad 83), Value.long 0, Value.long 0]) : va_E) = _; rw [a83])
  have y83 : n_sim [(zzZ, .inl (dA 0, (64, .inl (fun _ => 0))))] (s_w dA ad 83 1 mc0) := n_one la_83 a83 rfl
  have z31 : n_sim (zZ) (s_w dA ad 82 2 mc0) := by
    rw [ezZ]; exact n_sim_cat (a := 1) (b := 1) y82 (y83)
  have y84 : n_sim [(qr, .inl (dA 0, (3, .inl (fun _ => 0))))] (s_w dA ad 84 1 mc0) := n_one la_84 a84 rfl
  have z32 : n_sim ([(qr, .inl (dA 0, (3, .inl (fun _ => 0))))]) (s_w dA ad 84 1 mc0) := by
    exact y84
  have y85 : n_sim [(qI, .inr (2, [.ref i1, .int 0, .ref i2, .ref i3, .ref i4, .ref i5, .int 0]))] (s_w dA ad 85 1 mc0) := n_one la_85 a85 (by show (Sum.inr (2, [Value.ref (ad 86), Value.int 0, Value.ref (ad 87), Value.ref (ad 88), Value.ref (ad 89), Value.ref (ad 90), Value.int 0]) : va_E) = _; rw [a86, a87, a88, a89, a90])
  have y86 : n_sim [(i1, .inl (dA 2, (60, .inl (fun _ => 0))))] (s_w dA ad 86 1 mc0) := n_one la_86 a86 rfl
  have y87 : n_sim [(i2, .inl (dA 0, (60, .inl (fun _ => 0))))] (s_w dA ad 87 1 mc0) := n_one la_87 a87 rfl
  have y88 : n_sim [(i3, .inl (dA 0, (60, .inl (fun _ => 0))))] (s_w dA ad 88 1 mc0) := n_one la_88 a88 rfl
  have y89 : n_sim [(i4, .inl (dA 0, (60, .inl (fun _ => 0))))] (s_w dA ad 89 1 mc0) := n_one la_89 a89 rfl
  have y90 : n_sim [(i5, .inl (dA 1, (60, .inl (fun _ => 0))))] (s_w dA ad 90 1 mc0) := n_one la_90 a90 rfl
  have z33 : n_sim (wI) (s_w dA ad 85 6 mc0) := by
    rw [eI]; exact n_sim_cat (a := 1) (b := 5) y85 (n_sim_cat (a := 1) (b := 4) y86 (n_sim_cat (a := 1) (b := 3) y87 (n_sim_cat (a := 1) (b := 2) y88 (n_sim_cat (a := 1) (b := 1) y89 (y90)))))
  have y91 : n_sim [(qO, .inr (4, [.ref o1, .ref o2, .int 0]))] (s_w dA ad 91 1 mc0) := n_one la_91 a91 (by show (Sum.inr (4, [Value.ref (ad 92), Value.ref (ad 93), Value.int 0]) : va_E) = _; rw [a92, a93])
  have y92 : n_sim [(o1, .inl (dA 2, (960, .inl (fun _ => 0))))] (s_w dA ad 92 1 mc0) := n_one la_92 a92 rfl
  have y93 : n_sim [(o2, .inl (dA 2, (10, .inl (fun _ => 0))))] (s_w dA ad 93 1 mc0) := n_one la_93 a93 rfl
  have z34 : n_sim (wO) (s_w dA ad 91 3 mc0) := by
    rw [eO]; exact n_sim_cat (a := 1) (b := 2) y91 (n_sim_cat (a := 1) (b := 1) y92 (y93))
  have y94 : n_sim [(qL, .inr (3, [.ref l1, .int 0]))] (s_w dA ad 94 1 mc0) := n_one la_94 a94 (by show (Sum.inr (3, [Value.ref (ad 95), Value.int 0]) : va_E) = _; rw [a95])
  have z35 : n_sim ([(qL, .inr (3, [.ref l1, .int 0]))]) (s_w dA ad 94 1 mc0) := by
    exact y94
  have y95 : n_sim [(l1, .inl (dA 6, (8, .inr (.inr (.inr (.inr (fun i => some (rl i))))))))] (s_w dA ad 95 1 mc0) := n_oneR la_95 a95 (fun i hi => by
      rcases (show i = 0 ∨ i = 1 ∨ i = 2 ∨ i = 3 ∨ i = 4 ∨ i = 5 ∨ i = 6 ∨ i = 7 by omega) with rfl | rfl | rfl | rfl | rfl | rfl | rfl | rfl
      · exact congrArg some a96.symm
      · exact congrArg some a97.symm
      · exact congrArg some a98.symm
      · exact congrArg some a99.symm
      · exact congrArg some a100.symm
      · exact congrArg some a101.symm
      · exact congrArg some a102.symm
      · exact congrArg some a103.symm)
  have z36 : n_sim ([(l1, .inl (dA 6, (8, .inr (.inr (.inr (.inr (fun i => some (rl i)))))))) ]) (s_w dA ad 95 1 mc0) := by
    exact y95
  have y96 : n_sim [(rl 0, .inl (dA 0, (4, .inl (fun _ => 0))))] (s_w dA ad 96 1 mc0) := n_one la_96 a96 rfl
  have y97 : n_sim [(rl 1, .inl (dA 0, (4, .inl (fun _ => 0))))] (s_w dA ad 97 1 mc0) := n_one la_97 a97 rfl
  have y98 : n_sim [(rl 2, .inl (dA 0, (4, .inl (fun _ => 0))))] (s_w dA ad 98 1 mc0) := n_one la_98 a98 rfl
  have y99 : n_sim [(rl 3, .inl (dA 0, (4, .inl (fun _ => 0))))] (s_w dA ad 99 1 mc0) := n_one la_99 a99 rfl
  have y100 : n_sim [(rl 4, .inl (dA 0, (4, .inl (fun _ => 0))))] (s_w dA ad 100 1 mc0) := n_one la_100 a100 rfl
  have y101 : n_sim [(rl 5, .inl (dA 0, (4, .inl (fun _ => 0))))] (s_w dA ad 101 1 mc0) := n_one la_101 a101 rfl
  have y102 : n_sim [(rl 6, .inl (dA 0, (4, .inl (fun _ => 0))))] (s_w dA ad 102 1 mc0) := n_one la_102 a102 rfl
  have y103 : n_sim [(rl 7, .inl (dA 0, (4, .inl (fun _ => 0))))] (s_w dA ad 103 1 mc0) := n_one la_103 a103 rfl
  have z37 : n_sim ([(rl 0, .inl (dA 0, (4, .inl (fun _ => 0)))), (rl 1, .inl (dA 0, (4, .inl (fun _ => 0)))), (rl 2, .inl (dA 0, (4, .inl (fun _ => 0)))), (rl 3, .inl (dA 0, (4, .inl (fun _ => 0)))), (rl 4, .inl (dA 0, (4, .inl (fun _ => 0)))), (rl 5, .inl (dA 0, (4, .inl (fun _ => 0)))), (rl 6, .inl (dA 0, (4, .inl (fun _ => 0)))), (rl 7, .inl (dA 0, (4, .inl (fun _ => 0))))]) (s_w dA ad 96 8 mc0) := by
    exact n_sim_cat (a := 1) (b := 7) y96 (n_sim_cat (a := 1) (b := 6) y97 (n_sim_cat (a := 1) (b := 5) y98 (n_sim_cat (a := 1) (b := 4) y99 (n_sim_cat (a := 1) (b := 3) y100 (n_sim_cat (a := 1) (b := 2) y101 (n_sim_cat (a := 1) (b := 1) y102 (y103)))))))
  have y104 : n_sim [(qF, .inr (6, [.ref f1, .ref f2, .ref f3, .long 0]))] (s_w dA ad 104 1 mc0) := n_one la_104 a104 (by show (Sum.inr (6, [Value.ref (ad 105), Value.ref (ad 106), Value.ref (ad 107), Value.long 0]) : va_E) = _; rw [a105, a106, a107])
  have y105 : n_sim [(f1, .inl (dA 0, (64, .inl (fun _ => 0))))] (s_w dA ad 105 1 mc0) := n_one la_105 a105 rfl
  have y106 : n_sim [(f2, .inl (dA 0, (64, .inl (fun _ => 0))))] (s_w dA ad 106 1 mc0) := n_one la_106 a106 rfl
  have y107 : n_sim [(f3, .inl (dA 0, (64, .inl (fun _ => 0))))] (s_w dA ad 107 1 mc0) := n_one la_107 a107 rfl
  have z38 : n_sim (wF) (s_w dA ad 104 4 mc0) := by
    rw [eF]; exact n_sim_cat (a := 1) (b := 3) y104 (n_sim_cat (a := 1) (b := 2) y105 (n_sim_cat (a := 1) (b := 1) y106 (y107)))
  have y108 : n_sim [(qc, .inl (dA 0, (8, .inl (fun _ => 0))))] (s_w dA ad 108 1 mc0) := n_one la_108 a108 rfl
  have z39 : n_sim ([(qc, .inl (dA 0, (8, .inl (fun _ => 0))))]) (s_w dA ad 108 1 mc0) := by
    exact y108
  exact n_sim_cat (a := 1) (b := 108) z0 (n_sim_cat (a := 1) (b := 107) z1 (n_sim_cat (a := 1) (b := 106) z2 (n_sim_cat (a := 1) (b := 105) z3 (n_sim_cat (a := 32) (b := 73) z4 (n_sim_cat (a := 3) (b := 70) z5 (n_sim_cat (a := 3) (b := 67) z6 (n_sim_cat (a := 3) (b := 64) z7 (n_sim_cat (a := 3) (b := 61) z8 (n_sim_cat (a := 1) (b := 60) z9 (n_sim_cat (a := 1) (b := 59) z10 (n_sim_cat (a := 2) (b := 57) z11 (n_sim_cat (a := 1) (b := 56) z12 (n_sim_cat (a := 1) (b := 55) z13 (n_sim_cat (a := 1) (b := 54) z14 (n_sim_cat (a := 2) (b := 52) z15 (n_sim_cat (a := 1) (b := 51) z16 (n_sim_cat (a := 2) (b := 49) z17 (n_sim_cat (a := 2) (b := 47) z18 (n_sim_cat (a := 2) (b := 45) z19 (n_sim_cat (a := 1) (b := 44) z20 (n_sim_cat (a := 2) (b := 42) z21 (n_sim_cat (a := 1) (b := 41) z22 (n_sim_cat (a := 2) (b := 39) z23 (n_sim_cat (a := 2) (b := 37) z24 (n_sim_cat (a := 2) (b := 35) z25 (n_sim_cat (a := 1) (b := 34) z26 (n_sim_cat (a := 2) (b := 32) z27 (n_sim_cat (a := 1) (b := 31) z28 (n_sim_cat (a := 2) (b := 29) z29 (n_sim_cat (a := 2) (b := 27) z30 (n_sim_cat (a := 2) (b := 25) z31 (n_sim_cat (a := 1) (b := 24) z32 (n_sim_cat (a := 6) (b := 18) z33 (n_sim_cat (a := 3) (b := 15) z34 (n_sim_cat (a := 1) (b := 14) z35 (n_sim_cat (a := 1) (b := 13) z36 (n_sim_cat (a := 8) (b := 5) z37 (n_sim_cat (a := 4) (b := 1) z38 (n_sim_cat (a := 1) (b := 0) z39 (n_sim_eq rfl))))))))))))))))))))))))))))))))))))))))
