/-! THE LAW'S WORDS lie in the tables, each by its place. Written by wip/whole/words.py. -/
theorem lw_m1 {w : Cond} (h : w ∈ tables_1_1) : w ∈ lw_tbl := List.mem_append_right (k2_sels lw_privs) (show w ∈ tables_1_1 ++ (tables_1_2 ++ (tables_1_3 ++ (tables_1_4 ++ (tables_1_5 ++ (tables_1_6 ++ tables_1_7))))) from (List.mem_append_left _ h))
theorem lw_m2 {w : Cond} (h : w ∈ tables_1_2) : w ∈ lw_tbl := List.mem_append_right (k2_sels lw_privs) (show w ∈ tables_1_1 ++ (tables_1_2 ++ (tables_1_3 ++ (tables_1_4 ++ (tables_1_5 ++ (tables_1_6 ++ tables_1_7))))) from (List.mem_append_right _ (List.mem_append_left _ h)))
theorem lw_m3 {w : Cond} (h : w ∈ tables_1_3) : w ∈ lw_tbl := List.mem_append_right (k2_sels lw_privs) (show w ∈ tables_1_1 ++ (tables_1_2 ++ (tables_1_3 ++ (tables_1_4 ++ (tables_1_5 ++ (tables_1_6 ++ tables_1_7))))) from (List.mem_append_right _ (List.mem_append_right _ (List.mem_append_left _ h))))
theorem lw_m4 {w : Cond} (h : w ∈ tables_1_4) : w ∈ lw_tbl := List.mem_append_right (k2_sels lw_privs) (show w ∈ tables_1_1 ++ (tables_1_2 ++ (tables_1_3 ++ (tables_1_4 ++ (tables_1_5 ++ (tables_1_6 ++ tables_1_7))))) from (List.mem_append_right _ (List.mem_append_right _ (List.mem_append_right _ (List.mem_append_left _ h)))))
theorem lw_m5 {w : Cond} (h : w ∈ tables_1_5) : w ∈ lw_tbl := List.mem_append_right (k2_sels lw_privs) (show w ∈ tables_1_1 ++ (tables_1_2 ++ (tables_1_3 ++ (tables_1_4 ++ (tables_1_5 ++ (tables_1_6 ++ tables_1_7))))) from (List.mem_append_right _ (List.mem_append_right _ (List.mem_append_right _ (List.mem_append_right _ (List.mem_append_left _ h))))))
theorem lw_m6 {w : Cond} (h : w ∈ tables_1_6) : w ∈ lw_tbl := List.mem_append_right (k2_sels lw_privs) (show w ∈ tables_1_1 ++ (tables_1_2 ++ (tables_1_3 ++ (tables_1_4 ++ (tables_1_5 ++ (tables_1_6 ++ tables_1_7))))) from (List.mem_append_right _ (List.mem_append_right _ (List.mem_append_right _ (List.mem_append_right _ (List.mem_append_right _ (List.mem_append_left _ h)))))))
theorem lw_m7 {w : Cond} (h : w ∈ tables_1_7) : w ∈ lw_tbl := List.mem_append_right (k2_sels lw_privs) (show w ∈ tables_1_1 ++ (tables_1_2 ++ (tables_1_3 ++ (tables_1_4 ++ (tables_1_5 ++ (tables_1_6 ++ tables_1_7))))) from (List.mem_append_right _ (List.mem_append_right _ (List.mem_append_right _ (List.mem_append_right _ (List.mem_append_right _ (List.mem_append_right _ h)))))))
theorem lw_mp {w : Cond} (h : w ∈ k2_sels lw_privs) : w ∈ lw_tbl := List.mem_append_left tables_1 h
theorem lw_ws {C : String} {T : u_T} {N : Nat} (h : ∀ k, k < N → u_lay C T k ∈ lw_tbl) : ∀ w ∈ u_ws C T N, w ∈ lw_tbl := fun w hw => by
  obtain ⟨k, hk, e⟩ := List.mem_map.mp hw
  rw [← e]
  exact h k (List.mem_range.mp hk)
set_option maxRecDepth 100000 in
set_option maxHeartbeats 4000000 in
theorem lw_x0 : ∀ w ∈ wsX00, w ∈ lw_tbl := lw_ws (fun k hk => by
  rcases (show k = 0 ∨ k = 1 ∨ k = 2 by omega) with rfl | rfl | rfl
  · exact lw_m1 (List.mem_of_getElem? (i := 98) rfl)
  · exact lw_m1 (List.mem_of_getElem? (i := 100) rfl)
  · exact lw_m1 (List.mem_of_getElem? (i := 102) rfl))
set_option maxRecDepth 100000 in
set_option maxHeartbeats 4000000 in
theorem lw_x1 : ∀ w ∈ wsX10, w ∈ lw_tbl := lw_ws (fun k hk => by
  rcases (show k = 0 ∨ k = 1 by omega) with rfl | rfl
  · exact lw_m1 (List.mem_of_getElem? (i := 46) rfl)
  · exact lw_m1 (List.mem_of_getElem? (i := 48) rfl))
set_option maxRecDepth 100000 in
set_option maxHeartbeats 4000000 in
theorem lw_x2 : ∀ w ∈ wsX20, w ∈ lw_tbl := lw_ws (fun k hk => by
  rcases (show k = 0 ∨ k = 1 ∨ k = 2 ∨ k = 3 ∨ k = 4 ∨ k = 5 ∨ k = 6 by omega) with rfl | rfl | rfl | rfl | rfl | rfl | rfl
  · exact lw_m1 (List.mem_of_getElem? (i := 141) rfl)
  · exact lw_m1 (List.mem_of_getElem? (i := 143) rfl)
  · exact lw_m1 (List.mem_of_getElem? (i := 145) rfl)
  · exact lw_m1 (List.mem_of_getElem? (i := 147) rfl)
  · exact lw_m1 (List.mem_of_getElem? (i := 149) rfl)
  · exact lw_m1 (List.mem_of_getElem? (i := 151) rfl)
  · exact lw_m1 (List.mem_of_getElem? (i := 153) rfl))
set_option maxRecDepth 100000 in
set_option maxHeartbeats 4000000 in
theorem lw_x3 : ∀ w ∈ wsX30, w ∈ lw_tbl := lw_ws (fun k hk => by
  rcases (show k = 0 ∨ k = 1 by omega) with rfl | rfl
  · exact lw_m1 (List.mem_of_getElem? (i := 187) rfl)
  · exact lw_m1 (List.mem_of_getElem? (i := 189) rfl))
set_option maxRecDepth 100000 in
set_option maxHeartbeats 4000000 in
theorem lw_x4 : ∀ w ∈ wsX40, w ∈ lw_tbl := lw_ws (fun k hk => by
  rcases (show k = 0 ∨ k = 1 ∨ k = 2 by omega) with rfl | rfl | rfl
  · exact lw_m1 (List.mem_of_getElem? (i := 169) rfl)
  · exact lw_m1 (List.mem_of_getElem? (i := 171) rfl)
  · exact lw_m1 (List.mem_of_getElem? (i := 173) rfl))
set_option maxRecDepth 100000 in
set_option maxHeartbeats 4000000 in
theorem lw_x5 : ∀ w ∈ wsX50, w ∈ lw_tbl := lw_ws (fun k hk => by
  rcases (show k = 0 ∨ k = 1 ∨ k = 2 by omega) with rfl | rfl | rfl
  · exact lw_m1 (List.mem_of_getElem? (i := 116) rfl)
  · exact lw_m1 (List.mem_of_getElem? (i := 118) rfl)
  · exact lw_m1 (List.mem_of_getElem? (i := 120) rfl))
set_option maxRecDepth 100000 in
set_option maxHeartbeats 4000000 in
theorem lw_x6 : ∀ w ∈ wsX60, w ∈ lw_tbl := lw_ws (fun k hk => by
  rcases (show k = 0 ∨ k = 1 ∨ k = 2 ∨ k = 3 by omega) with rfl | rfl | rfl | rfl
  · exact lw_m1 (List.mem_of_getElem? (i := 206) rfl)
  · exact lw_m1 (List.mem_of_getElem? (i := 208) rfl)
  · exact lw_m1 (List.mem_of_getElem? (i := 210) rfl)
  · exact lw_m1 (List.mem_of_getElem? (i := 212) rfl))
set_option maxRecDepth 100000 in
set_option maxHeartbeats 4000000 in
theorem lw_x7 : ∀ w ∈ wsX70, w ∈ lw_tbl := lw_ws (fun k hk => by
  rcases (show k = 0 ∨ k = 1 ∨ k = 2 ∨ k = 3 by omega) with rfl | rfl | rfl | rfl
  · exact lw_m1 (List.mem_of_getElem? (i := 230) rfl)
  · exact lw_m1 (List.mem_of_getElem? (i := 232) rfl)
  · exact lw_m1 (List.mem_of_getElem? (i := 234) rfl)
  · exact lw_m1 (List.mem_of_getElem? (i := 236) rfl))
set_option maxRecDepth 100000 in
set_option maxHeartbeats 4000000 in
theorem lw_x8 : ∀ w ∈ wsX80, w ∈ lw_tbl := lw_ws (fun k hk => by
  rcases (show k = 0 ∨ k = 1 ∨ k = 2 ∨ k = 3 ∨ k = 4 ∨ k = 5 by omega) with rfl | rfl | rfl | rfl | rfl | rfl
  · exact lw_m1 (List.mem_of_getElem? (i := 70) rfl)
  · exact lw_m1 (List.mem_of_getElem? (i := 72) rfl)
  · exact lw_m1 (List.mem_of_getElem? (i := 74) rfl)
  · exact lw_m1 (List.mem_of_getElem? (i := 76) rfl)
  · exact lw_m1 (List.mem_of_getElem? (i := 78) rfl)
  · exact lw_m1 (List.mem_of_getElem? (i := 80) rfl))
set_option maxRecDepth 100000 in
set_option maxHeartbeats 4000000 in
theorem lw_x9 : ∀ w ∈ wsX90, w ∈ lw_tbl := lw_ws (fun k hk => by
  rcases (show k = 0 ∨ k = 1 ∨ k = 2 ∨ k = 3 ∨ k = 4 ∨ k = 5 ∨ k = 6 ∨ k = 7 ∨ k = 8 ∨ k = 9 ∨ k = 10 ∨ k = 11 ∨ k = 12 ∨ k = 13 ∨ k = 14 ∨ k = 15 by omega) with rfl | rfl | rfl | rfl | rfl | rfl | rfl | rfl | rfl | rfl | rfl | rfl | rfl | rfl | rfl | rfl
  · exact lw_m2 (List.mem_of_getElem? (i := 51) rfl)
  · exact lw_m2 (List.mem_of_getElem? (i := 53) rfl)
  · exact lw_m2 (List.mem_of_getElem? (i := 55) rfl)
  · exact lw_m2 (List.mem_of_getElem? (i := 57) rfl)
  · exact lw_m2 (List.mem_of_getElem? (i := 59) rfl)
  · exact lw_m2 (List.mem_of_getElem? (i := 61) rfl)
  · exact lw_m2 (List.mem_of_getElem? (i := 63) rfl)
  · exact lw_m2 (List.mem_of_getElem? (i := 65) rfl)
  · exact lw_m2 (List.mem_of_getElem? (i := 67) rfl)
  · exact lw_m2 (List.mem_of_getElem? (i := 69) rfl)
  · exact lw_m2 (List.mem_of_getElem? (i := 71) rfl)
  · exact lw_m2 (List.mem_of_getElem? (i := 73) rfl)
  · exact lw_m2 (List.mem_of_getElem? (i := 75) rfl)
  · exact lw_m2 (List.mem_of_getElem? (i := 77) rfl)
  · exact lw_m2 (List.mem_of_getElem? (i := 79) rfl)
  · exact lw_m2 (List.mem_of_getElem? (i := 81) rfl))
set_option maxRecDepth 100000 in
set_option maxHeartbeats 4000000 in
theorem lw_x10 : ∀ w ∈ wsX100, w ∈ lw_tbl := lw_ws (fun k hk => by
  rcases (show k = 0 ∨ k = 1 ∨ k = 2 ∨ k = 3 ∨ k = 4 ∨ k = 5 ∨ k = 6 ∨ k = 7 ∨ k = 8 ∨ k = 9 ∨ k = 10 ∨ k = 11 ∨ k = 12 ∨ k = 13 ∨ k = 14 ∨ k = 15 ∨ k = 16 ∨ k = 17 ∨ k = 18 ∨ k = 19 ∨ k = 20 ∨ k = 21 ∨ k = 22 ∨ k = 23 ∨ k = 24 ∨ k = 25 ∨ k = 26 ∨ k = 27 ∨ k = 28 ∨ k = 29 ∨ k = 30 ∨ k = 31 ∨ k = 32 ∨ k = 33 ∨ k = 34 ∨ k = 35 ∨ k = 36 ∨ k = 37 by omega) with rfl | rfl | rfl | rfl | rfl | rfl | rfl | rfl | rfl | rfl | rfl | rfl | rfl | rfl | rfl | rfl | rfl | rfl | rfl | rfl | rfl | rfl | rfl | rfl | rfl | rfl | rfl | rfl | rfl | rfl | rfl | rfl | rfl | rfl | rfl | rfl | rfl | rfl
  · exact lw_m5 (List.mem_of_getElem? (i := 220) rfl)
  · exact lw_m5 (List.mem_of_getElem? (i := 222) rfl)
  · exact lw_m5 (List.mem_of_getElem? (i := 224) rfl)
  · exact lw_m5 (List.mem_of_getElem? (i := 226) rfl)
  · exact lw_m5 (List.mem_of_getElem? (i := 228) rfl)
  · exact lw_m5 (List.mem_of_getElem? (i := 230) rfl)
  · exact lw_m5 (List.mem_of_getElem? (i := 232) rfl)
  · exact lw_m5 (List.mem_of_getElem? (i := 234) rfl)
  · exact lw_m5 (List.mem_of_getElem? (i := 236) rfl)
  · exact lw_m5 (List.mem_of_getElem? (i := 238) rfl)
  · exact lw_m6 (List.mem_of_getElem? (i := 0) rfl)
  · exact lw_m6 (List.mem_of_getElem? (i := 2) rfl)
  · exact lw_m6 (List.mem_of_getElem? (i := 4) rfl)
  · exact lw_m6 (List.mem_of_getElem? (i := 6) rfl)
  · exact lw_m6 (List.mem_of_getElem? (i := 8) rfl)
  · exact lw_m6 (List.mem_of_getElem? (i := 10) rfl)
  · exact lw_m6 (List.mem_of_getElem? (i := 12) rfl)
  · exact lw_m6 (List.mem_of_getElem? (i := 14) rfl)
  · exact lw_m6 (List.mem_of_getElem? (i := 16) rfl)
  · exact lw_m6 (List.mem_of_getElem? (i := 18) rfl)
  · exact lw_m6 (List.mem_of_getElem? (i := 20) rfl)
  · exact lw_m6 (List.mem_of_getElem? (i := 22) rfl)
  · exact lw_m6 (List.mem_of_getElem? (i := 24) rfl)
  · exact lw_m6 (List.mem_of_getElem? (i := 26) rfl)
  · exact lw_m6 (List.mem_of_getElem? (i := 28) rfl)
  · exact lw_m6 (List.mem_of_getElem? (i := 30) rfl)
  · exact lw_m6 (List.mem_of_getElem? (i := 32) rfl)
  · exact lw_m6 (List.mem_of_getElem? (i := 34) rfl)
  · exact lw_m6 (List.mem_of_getElem? (i := 36) rfl)
  · exact lw_m6 (List.mem_of_getElem? (i := 38) rfl)
  · exact lw_m6 (List.mem_of_getElem? (i := 40) rfl)
  · exact lw_m6 (List.mem_of_getElem? (i := 42) rfl)
  · exact lw_m6 (List.mem_of_getElem? (i := 44) rfl)
  · exact lw_m6 (List.mem_of_getElem? (i := 46) rfl)
  · exact lw_m6 (List.mem_of_getElem? (i := 48) rfl)
  · exact lw_m6 (List.mem_of_getElem? (i := 50) rfl)
  · exact lw_m6 (List.mem_of_getElem? (i := 52) rfl)
  · exact lw_m6 (List.mem_of_getElem? (i := 54) rfl))
