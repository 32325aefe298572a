/-! CONSTRUCTORS: the layout of the reference. Written by wip/whole/ctors3.py. -/
set_option maxRecDepth 100000 in
set_option maxHeartbeats 1000000 in
theorem n_lay10 (dA : Nat → ClassId) (h0 q8 q15 q22 q30 q39 q48 q55 q62 q71 q80 q89 q96 q105 q114 q123 q130 q138 q147 q155 q163 q171 q179 q187 q195 q203 q211 q219 q227 : Nat)  : n_sim ([[(h0, .inr (10, [.int 0, .ref q8, .int 0, .int 0, .ref q15, .ref q22, .ref q30, .ref q39, .ref q48, .ref q55, .ref q62, .ref q71, .ref q80, .ref q89, .ref q96, .ref q105, .ref q114, .ref q123, .ref q130, .int 0, .ref q138, .int 0, .ref q147, .int 0, .ref q155, .int 0, .ref q163, .ref q171, .ref q179, .ref q187, .ref q195, .int 0, .int 0, .ref q203, .ref q211, .ref q219, .ref q227, .int 0]))], [(q8, .inl (dA 0, (416, .inl (fun _ => 0))))], [(q15, .inl (dA 0, (3, .inl (fun _ => 0))))], [(q22, .inl (dA 0, (3, .inl (fun _ => 0))))], [(q30, .inl (dA 0, (24, .inl (fun _ => 0))))], [(q39, .inl (dA 1, (192, .inl (fun _ => 0))))], [(q48, .inl (dA 0, (192, .inl (fun _ => 0))))], [(q55, .inl (dA 1, (2, .inl (fun _ => 0))))], [(q62, .inl (dA 0, (3, .inl (fun _ => 0))))], [(q71, .inl (dA 1, (192, .inl (fun _ => 0))))], [(q80, .inl (dA 1, (192, .inl (fun _ => 0))))], [(q89, .inl (dA 0, (192, .inl (fun _ => 0))))], [(q96, .inl (dA 0, (3, .inl (fun _ => 0))))], [(q105, .inl (dA 1, (576, .inl (fun _ => 0))))], [(q114, .inl (dA 1, (576, .inl (fun _ => 0))))], [(q123, .inl (dA 0, (576, .inl (fun _ => 0))))], [(q130, .inl (dA 0, (3, .inl (fun _ => 0))))], [(q138, .inl (dA 2, (60, .inl (fun _ => 0))))], [(q147, .inl (dA 2, (1024, .inl (fun _ => 0))))], [(q155, .inl (dA 0, (32, .inl (fun _ => 0))))], [(q163, .inl (dA 0, (8, .inl (fun _ => 0))))], [(q171, .inl (dA 1, (64, .inl (fun _ => 0))))], [(q179, .inl (dA 0, (64, .inl (fun _ => 0))))], [(q187, .inl (dA 0, (64, .inl (fun _ => 0))))], [(q195, .inl (dA 0, (64, .inl (fun _ => 0))))], [(q203, .inl (dA 1, (8, .inl (fun _ => 0))))], [(q211, .inl (dA 1, (64, .inl (fun _ => 0))))], [(q219, .inl (dA 0, (64, .inl (fun _ => 0))))], [(q227, .inl (dA 0, (13, .inl (fun _ => 0))))]].flatten) (s_w dA (n_ad 110 [h0, q8, q15, q22, q30, q39, q48, q55, q62, q71, q80, q89, q96, q105, q114, q123, q130, q138, q147, q155, q163, q171, q179, q187, q195, q203, q211, q219, q227]) 110 29 mz0) := by
  obtain ⟨ad, had⟩ : ∃ ad, n_ad 110 [h0, q8, q15, q22, q30, q39, q48, q55, q62, q71, q80, q89, q96, q105, q114, q123, q130, q138, q147, q155, q163, q171, q179, q187, q195, q203, q211, q219, q227] = ad := ⟨_, rfl⟩
  rw [had]
  have a110 : ad 110 = h0 := by rw [← had]; rfl
  have a111 : ad 111 = q8 := by rw [← had]; rfl
  have a112 : ad 112 = q15 := by rw [← had]; rfl
  have a113 : ad 113 = q22 := by rw [← had]; rfl
  have a114 : ad 114 = q30 := by rw [← had]; rfl
  have a115 : ad 115 = q39 := by rw [← had]; rfl
  have a116 : ad 116 = q48 := by rw [← had]; rfl
  have a117 : ad 117 = q55 := by rw [← had]; rfl
  have a118 : ad 118 = q62 := by rw [← had]; rfl
  have a119 : ad 119 = q71 := by rw [← had]; rfl
  have a120 : ad 120 = q80 := by rw [← had]; rfl
  have a121 : ad 121 = q89 := by rw [← had]; rfl
  have a122 : ad 122 = q96 := by rw [← had]; rfl
  have a123 : ad 123 = q105 := by rw [← had]; rfl
  have a124 : ad 124 = q114 := by rw [← had]; rfl
  have a125 : ad 125 = q123 := by rw [← had]; rfl
  have a126 : ad 126 = q130 := by rw [← had]; rfl
  have a127 : ad 127 = q138 := by rw [← had]; rfl
  have a128 : ad 128 = q147 := by rw [← had]; rfl
  have a129 : ad 129 = q155 := by rw [← had]; rfl
  have a130 : ad 130 = q163 := by rw [← had]; rfl
  have a131 : ad 131 = q171 := by rw [← had]; rfl
  have a132 : ad 132 = q179 := by rw [← had]; rfl
  have a133 : ad 133 = q187 := by rw [← had]; rfl
  have a134 : ad 134 = q195 := by rw [← had]; rfl
  have a135 : ad 135 = q203 := by rw [← had]; rfl
  have a136 : ad 136 = q211 := by rw [← had]; rfl
  have a137 : ad 137 = q219 := by rw [← had]; rfl
  have a138 : ad 138 = q227 := by rw [← had]; rfl
  have z0 : n_sim ([(h0, .inr (10, [.int 0, .ref q8, .int 0, .int 0, .ref q15, .ref q22, .ref q30, .ref q39, .ref q48, .ref q55, .ref q62, .ref q71, .ref q80, .ref q89, .ref q96, .ref q105, .ref q114, .ref q123, .ref q130, .int 0, .ref q138, .int 0, .ref q147, .int 0, .ref q155, .int 0, .ref q163, .ref q171, .ref q179, .ref q187, .ref q195, .int 0, .int 0, .ref q203, .ref q211, .ref q219, .ref q227, .int 0]))]) (s_w dA ad 110 1 mz0) := by
    exact n_one la_110 a110 (by show (Sum.inr (10, [Value.int 0, Value.ref (ad 111), Value.int 0, Value.int 0, Value.ref (ad 112), Value.ref (ad 113), Value.ref (ad 114), Value.ref (ad 115), Value.ref (ad 116), Value.ref (ad 117), Value.ref (ad 118), Value.ref (ad 119), Value.ref (ad 120), Value.ref (ad 121), Value.ref (ad 122), Value.ref (ad 123), Value.ref (ad 124), Value.ref (ad 125), Value.ref (ad 126), Value.int 0, Value.ref (ad 127), Value.int 0, Value.ref (ad 128), Value.int 0, Value.ref (ad 129), Value.int 0, Value.ref (ad 130), Value.ref (ad 131), Value.ref (ad 132), Value.ref (ad 133), Value.ref (ad 134), Value.int 0, Value.int 0, Value.ref (ad 135), Value.ref (ad 136), Value.ref (ad 137), Value.ref (ad 138), Value.int 0]) : va_E) = _; rw [a111, a112, a113, a114, a115, a116, a117, a118, a119, a120, a121, a122, a123, a124, a125, a126, a127, a128, a129, a130, a131, a132, a133, a134, a135, a136, a137, a138])
  have z1 : n_sim ([(q8, .inl (dA 0, (416, .inl (fun _ => 0))))]) (s_w dA ad 111 1 mz0) := by
    exact n_one la_111 a111 rfl
  have z2 : n_sim ([(q15, .inl (dA 0, (3, .inl (fun _ => 0))))]) (s_w dA ad 112 1 mz0) := by
    exact n_one la_112 a112 rfl
  have z3 : n_sim ([(q22, .inl (dA 0, (3, .inl (fun _ => 0))))]) (s_w dA ad 113 1 mz0) := by
    exact n_one la_113 a113 rfl
  have z4 : n_sim ([(q30, .inl (dA 0, (24, .inl (fun _ => 0))))]) (s_w dA ad 114 1 mz0) := by
    exact n_one la_114 a114 rfl
  have z5 : n_sim ([(q39, .inl (dA 1, (192, .inl (fun _ => 0))))]) (s_w dA ad 115 1 mz0) := by
    exact n_one la_115 a115 rfl
  have z6 : n_sim ([(q48, .inl (dA 0, (192, .inl (fun _ => 0))))]) (s_w dA ad 116 1 mz0) := by
    exact n_one la_116 a116 rfl
  have z7 : n_sim ([(q55, .inl (dA 1, (2, .inl (fun _ => 0))))]) (s_w dA ad 117 1 mz0) := by
    exact n_one la_117 a117 rfl
  have z8 : n_sim ([(q62, .inl (dA 0, (3, .inl (fun _ => 0))))]) (s_w dA ad 118 1 mz0) := by
    exact n_one la_118 a118 rfl
  have z9 : n_sim ([(q71, .inl (dA 1, (192, .inl (fun _ => 0))))]) (s_w dA ad 119 1 mz0) := by
    exact n_one la_119 a119 rfl
  have z10 : n_sim ([(q80, .inl (dA 1, (192, .inl (fun _ => 0))))]) (s_w dA ad 120 1 mz0) := by
    exact n_one la_120 a120 rfl
  have z11 : n_sim ([(q89, .inl (dA 0, (192, .inl (fun _ => 0))))]) (s_w dA ad 121 1 mz0) := by
    exact n_one la_121 a121 rfl
  have z12 : n_sim ([(q96, .inl (dA 0, (3, .inl (fun _ => 0))))]) (s_w dA ad 122 1 mz0) := by
    exact n_one la_122 a122 rfl
  have z13 : n_sim ([(q105, .inl (dA 1, (576, .inl (fun _ => 0))))]) (s_w dA ad 123 1 mz0) := by
    exact n_one la_123 a123 rfl
  have z14 : n_sim ([(q114, .inl (dA 1, (576, .inl (fun _ => 0))))]) (s_w dA ad 124 1 mz0) := by
    exact n_one la_124 a124 rfl
  have z15 : n_sim ([(q123, .inl (dA 0, (576, .inl (fun _ => 0))))]) (s_w dA ad 125 1 mz0) := by
    exact n_one la_125 a125 rfl
  have z16 : n_sim ([(q130, .inl (dA 0, (3, .inl (fun _ => 0))))]) (s_w dA ad 126 1 mz0) := by
    exact n_one la_126 a126 rfl
  have z17 : n_sim ([(q138, .inl (dA 2, (60, .inl (fun _ => 0))))]) (s_w dA ad 127 1 mz0) := by
    exact n_one la_127 a127 rfl
  have z18 : n_sim ([(q147, .inl (dA 2, (1024, .inl (fun _ => 0))))]) (s_w dA ad 128 1 mz0) := by
    exact n_one la_128 a128 rfl
  have z19 : n_sim ([(q155, .inl (dA 0, (32, .inl (fun _ => 0))))]) (s_w dA ad 129 1 mz0) := by
    exact n_one la_129 a129 rfl
  have z20 : n_sim ([(q163, .inl (dA 0, (8, .inl (fun _ => 0))))]) (s_w dA ad 130 1 mz0) := by
    exact n_one la_130 a130 rfl
  have z21 : n_sim ([(q171, .inl (dA 1, (64, .inl (fun _ => 0))))]) (s_w dA ad 131 1 mz0) := by
    exact n_one la_131 a131 rfl
  have z22 : n_sim ([(q179, .inl (dA 0, (64, .inl (fun _ => 0))))]) (s_w dA ad 132 1 mz0) := by
    exact n_one la_132 a132 rfl
  have z23 : n_sim ([(q187, .inl (dA 0, (64, .inl (fun _ => 0))))]) (s_w dA ad 133 1 mz0) := by
    exact n_one la_133 a133 rfl
  have z24 : n_sim ([(q195, .inl (dA 0, (64, .inl (fun _ => 0))))]) (s_w dA ad 134 1 mz0) := by
    exact n_one la_134 a134 rfl
  have z25 : n_sim ([(q203, .inl (dA 1, (8, .inl (fun _ => 0))))]) (s_w dA ad 135 1 mz0) := by
    exact n_one la_135 a135 rfl
  have z26 : n_sim ([(q211, .inl (dA 1, (64, .inl (fun _ => 0))))]) (s_w dA ad 136 1 mz0) := by
    exact n_one la_136 a136 rfl
  have z27 : n_sim ([(q219, .inl (dA 0, (64, .inl (fun _ => 0))))]) (s_w dA ad 137 1 mz0) := by
    exact n_one la_137 a137 rfl
  have z28 : n_sim ([(q227, .inl (dA 0, (13, .inl (fun _ => 0))))]) (s_w dA ad 138 1 mz0) := by
    exact n_one la_138 a138 rfl
  exact n_sim_cat (a := 1) (b := 28) z0 (n_sim_cat (a := 1) (b := 27) z1 (n_sim_cat (a := 1) (b := 26) z2 (n_sim_cat (a := 1) (b := 25) z3 (n_sim_cat (a := 1) (b := 24) z4 (n_sim_cat (a := 1) (b := 23) z5 (n_sim_cat (a := 1) (b := 22) z6 (n_sim_cat (a := 1) (b := 21) z7 (n_sim_cat (a := 1) (b := 20) z8 (n_sim_cat (a := 1) (b := 19) z9 (n_sim_cat (a := 1) (b := 18) z10 (n_sim_cat (a := 1) (b := 17) z11 (n_sim_cat (a := 1) (b := 16) z12 (n_sim_cat (a := 1) (b := 15) z13 (n_sim_cat (a := 1) (b := 14) z14 (n_sim_cat (a := 1) (b := 13) z15 (n_sim_cat (a := 1) (b := 12) z16 (n_sim_cat (a := 1) (b := 11) z17 (n_sim_cat (a := 1) (b := 10) z18 (n_sim_cat (a := 1) (b := 9) z19 (n_sim_cat (a := 1) (b := 8) z20 (n_sim_cat (a := 1) (b := 7) z21 (n_sim_cat (a := 1) (b := 6) z22 (n_sim_cat (a := 1) (b := 5) z23 (n_sim_cat (a := 1) (b := 4) z24 (n_sim_cat (a := 1) (b := 3) z25 (n_sim_cat (a := 1) (b := 2) z26 (n_sim_cat (a := 1) (b := 1) z27 (n_sim_cat (a := 1) (b := 0) z28 (n_sim_eq rfl)))))))))))))))))))))))))))))
