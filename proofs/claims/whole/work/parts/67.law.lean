noncomputable def f_law_29 (xs : Nat → Int32) (L : Nat) (i : Int32) (kk : sM → Option (sR Int32)) (m : sM) : Option (sR Int32) :=
  s_bf 0 109 (f_X9_logSize m) m fun r243 m244 => s_bf 110 29 (f_X10_logSize m244) m244 fun r245 m246 => if r243 = r245 then (kk  m246) else (some (.inl 0, m246))
set_option maxRecDepth 20000 in
set_option maxHeartbeats 4000000 in
theorem c_law_29 {ad : Nat → Nat} {xs : Nat → Int32} {L scr : Nat} {res : sR Int32} {V : sV} {m9 : sM} (C : sCL ad xs L scr RL cL_law 7 wsL_law res V) (hres : res = (.inl 1, m9)) (n : Nat) (i : Int32) (kk : sM → Option (sR Int32)) (m : sM) (hk : ∀ m, kk m = some res → V (16 * n + 0) 2601 [(0, .ref scr), (1, .ref (ad 0)), (2, .ref (ad 110)), (3, .ref (ad 109)), (4, .int i)] [] m) (h : f_law_29 xs L i kk m = some res) : V (16 * n + 16) 1712 [(0, .ref scr), (1, .ref (ad 0)), (2, .ref (ad 110)), (3, .ref (ad 109)), (4, .int i)] [] m := by
  unfold f_law_29 at h
  refine l_aload_n C dL_law_1712 rfl 1 rfl ?_
  refine l_callV C (c_X9_logSize 109 (by omega)) (by decide) (As := []) (nn := 0) (stk := [.ref (ad 0)]) (ci := 9) dL_law_1713 gL_law_X9_logSize ⟨rfl, by decide, by decide, by decide +kernel⟩ (by omega) la_0 rfl rfl rfl (by decide) rfl rfl (Nat.le_of_ble_eq_true rfl) (by omega) h (fun r243 m244 h => ?_)
  show V (16 * n + 16) 1716 [(0, .ref scr), (1, .ref (ad 0)), (2, .ref (ad 110)), (3, .ref (ad 109)), (4, .int i)] [.int r243] m244
  refine l_aload_n C dL_law_1716 rfl 2 rfl ?_
  refine l_callV C (c_X10_logSize 29 (by omega)) (by decide) (As := []) (nn := 0) (stk := [.ref (ad 110), .int r243]) (ci := 10) dL_law_1717 gL_law_X10_logSize ⟨rfl, by decide, by decide, by decide +kernel⟩ (by omega) la_110 rfl rfl rfl (by decide) rfl rfl (Nat.le_of_ble_eq_true rfl) (by omega) h (fun r245 m246 h => ?_)
  show V (16 * n + 16) 1720 [(0, .ref scr), (1, .ref (ad 0)), (2, .ref (ad 110)), (3, .ref (ad 109)), (4, .int i)] [.int r245, .int r243] m246
  refine l_icmp_eq C (tgt := 2601) dL_law_1720 (by decide) h (fun _ h => ?_) (fun _ h => ?_)
  · skip
    refine l_less C (b' := (16 * n + 0)) (by omega) ?_
    exact hk m246 h
  · skip
    refine l_iconst C (v := 0) dL_law_1723 (by decide) ?_
    exact l_iret C rfl dL_law_1724 h hres
noncomputable def f_law_30 (xs : Nat → Int32) (L : Nat) (i : Int32) (kk : sM → Option (sR Int32)) (m : sM) : Option (sR Int32) :=
  s_ix (i + 1) L fun j247 => s_ix (i + 2) L fun j248 => s_bf 0 110 (f_L_logged (xs j247) (xs j248) m) m fun r249 m250 => s_ix (i + 1) L fun j251 => s_ix (i + 2) L fun j252 => s_bf 110 29 (f_X10_logged (xs j251) (xs j252) m250) m250 fun r253 m254 => s_bf 110 29 (f_X10_thrown m254) m254 fun r255 m256 => if r255 = r249 then (s_jn (kk  m256) fun k1790 => if r249 = 0 then (s_ix 0 1 fun j257 => if (lg_cmp (m256.2 109 j257) (Int32.toInt64 r253)) = 0 then (k1790) else (some (.inl 0, m256))) else (k1790)) else (some (.inl 0, m256))
set_option maxRecDepth 20000 in
set_option maxHeartbeats 4000000 in
theorem c_law_30 {ad : Nat → Nat} {xs : Nat → Int32} {L scr : Nat} {res : sR Int32} {V : sV} {m9 : sM} (C : sCL ad xs L scr RL cL_law 7 wsL_law res V) (hres : res = (.inl 1, m9)) (n : Nat) (i : Int32) (kk : sM → Option (sR Int32)) (m : sM) (hk : ∀ m, kk m = some res → V (16 * n + 0) 2601 [(0, .ref scr), (1, .ref (ad 0)), (2, .ref (ad 110)), (3, .ref (ad 109)), (4, .int i)] [] m) (h : f_law_30 xs L i kk m = some res) : V (16 * n + 16) 1725 [(0, .ref scr), (1, .ref (ad 0)), (2, .ref (ad 110)), (3, .ref (ad 109)), (4, .int i)] [] m := by
  unfold f_law_30 at h
  refine l_aload_n C dL_law_1725 rfl 1 rfl ?_
  refine l_aload_n C dL_law_1726 rfl 0 rfl ?_
  refine l_iload C dL_law_1727 4 rfl ?_
  refine l_iconst C (v := 1) dL_law_1729 (by decide) ?_
  refine l_iadd C dL_law_1730 ?_
  refine l_iald C dL_law_1731 h (fun j247 _ h => ?_)
  refine l_aload_n C dL_law_1732 rfl 0 rfl ?_
  refine l_iload C dL_law_1733 4 rfl ?_
  refine l_iconst C (v := 2) dL_law_1735 (by decide) ?_
  refine l_iadd C dL_law_1736 ?_
  refine l_iald C dL_law_1737 h (fun j248 _ h => ?_)
  refine l_aload_n C dL_law_1738 rfl 3 rfl ?_
  refine l_callS C (c_L_logged (xs j247) (xs j248)) (by decide) (As := [.ref (ad 0), .int (xs j247), .int (xs j248), .ref (ad 109)]) (nn := 4) (stk := [.ref (ad 109), .int (xs j248), .int (xs j247), .ref (ad 0)]) dL_law_1739 gL_law_L_logged ⟨by decide, by decide, by decide +kernel⟩ rfl rfl (by decide) rfl rfl (Nat.le_of_ble_eq_true rfl) (by omega) h (fun r249 m250 h => ?_)
  refine l_less C (b' := (16 * n + 14)) (by omega) ?_
  show V (16 * n + 14) 1742 [(0, .ref scr), (1, .ref (ad 0)), (2, .ref (ad 110)), (3, .ref (ad 109)), (4, .int i)] [.int r249] m250
  refine l_istore C dL_law_1742 (by decide) (show _ = [(5, .int r249), (0, .ref scr), (1, .ref (ad 0)), (2, .ref (ad 110)), (3, .ref (ad 109)), (4, .int i)] from rfl) ?_
  refine l_aload_n C dL_law_1744 rfl 3 rfl ?_
  refine l_aload_n C dL_law_1745 rfl 1 rfl ?_
  refine l_iload C dL_law_1746 5 rfl ?_
  refine l_iconst C (v := 1) dL_law_1748 (by decide) ?_
  refine l_iadd C dL_law_1749 ?_
  refine l_iald C dL_law_1750 h (fun j251 _ h => ?_)
  refine l_aload_n C dL_law_1751 rfl 1 rfl ?_
  refine l_iload C dL_law_1752 5 rfl ?_
  refine l_iconst C (v := 2) dL_law_1754 (by decide) ?_
  refine l_iadd C dL_law_1755 ?_
  refine l_iald C dL_law_1756 h (fun j252 _ h => ?_)
  refine l_callV C (c_X10_logged 29 (by omega) (xs j251) (xs j252)) (by decide) (As := [.int (xs j251), .int (xs j252)]) (nn := 2) (stk := [.int (xs j252), .int (xs j251), .ref (ad 110)]) (ci := 10) dL_law_1757 gL_law_X10_logged ⟨rfl, by decide, by decide, by decide +kernel⟩ (by omega) la_110 rfl rfl rfl (by decide) rfl rfl (Nat.le_of_ble_eq_true rfl) (by omega) h (fun r253 m254 h => ?_)
  show V (16 * n + 14) 1760 [(5, .int r249), (0, .ref scr), (1, .ref (ad 0)), (2, .ref (ad 110)), (3, .ref (ad 109)), (4, .int i)] [.int r253] m254
  refine l_istore C dL_law_1760 (by decide) (show _ = [(6, .int r253), (5, .int r249), (0, .ref scr), (1, .ref (ad 0)), (2, .ref (ad 110)), (3, .ref (ad 109)), (4, .int i)] from rfl) ?_
  refine l_aload_n C dL_law_1762 rfl 4 rfl ?_
  refine l_callV C (c_X10_thrown 29 (by omega)) (by decide) (As := []) (nn := 0) (stk := [.ref (ad 110)]) (ci := 10) dL_law_1763 gL_law_X10_thrown ⟨rfl, by decide, by decide, by decide +kernel⟩ (by omega) la_110 rfl rfl rfl (by decide) rfl rfl (Nat.le_of_ble_eq_true rfl) (by omega) h (fun r255 m256 h => ?_)
  show V (16 * n + 14) 1766 [(6, .int r253), (5, .int r249), (0, .ref scr), (1, .ref (ad 0)), (2, .ref (ad 110)), (3, .ref (ad 109)), (4, .int i)] [.int r255] m256
  refine l_iload C dL_law_1766 1 rfl ?_
  refine l_icmp_eq C (tgt := 1773) dL_law_1768 (by decide) h (fun _ h => ?_) (fun _ h => ?_)
  · skip
    refine l_iload C dL_law_1773 1 rfl ?_
    refine s_join h (fun k1790 => k1790  = some res → V (16 * n + 14) 1790 [(0, .ref scr), (1, .ref (ad 0)), (2, .ref (ad 110)), (3, .ref (ad 109)), (4, .int i)] [] m256) ?_ (fun k1790 hk1790 h => ?_)
    · intro  h
      refine l_goto C (tgt := 2601) dL_law_1790 (by decide) ?_
      refine l_less C (b' := (16 * n + 0)) (by omega) ?_
      exact hk m256 h
    refine l_if_ne C (tgt := 1790) dL_law_1775 (by decide) h (fun _ h => ?_) (fun _ h => ?_)
    · skip
      refine l_aload_n C dL_law_1778 rfl 5 rfl ?_
      refine l_iconst C (v := 0) dL_law_1779 (by decide) ?_
      refine l_lald C dL_law_1780 (by omega) la_109 h (fun j257 _ h => ?_)
      refine l_iload C dL_law_1781 0 rfl ?_
      refine l_i2l C dL_law_1783 ?_
      refine l_lcmp C dL_law_1784 ?_
      refine l_if_eq C (tgt := 1790) dL_law_1785 (by decide) h (fun _ h => ?_) (fun _ h => ?_)
      · skip
        refine l_sub C [2, 3, 4, 5, 6] (show _ = [(0, .ref scr), (1, .ref (ad 0)), (2, .ref (ad 110)), (3, .ref (ad 109)), (4, .int i)] from rfl) ?_
        exact hk1790 h
      · skip
        refine l_iconst C (v := 0) dL_law_1788 (by decide) ?_
        exact l_iret C rfl dL_law_1789 h hres
    · skip
      refine l_sub C [2, 3, 4, 5, 6] (show _ = [(0, .ref scr), (1, .ref (ad 0)), (2, .ref (ad 110)), (3, .ref (ad 109)), (4, .int i)] from rfl) ?_
      exact hk1790 h
  · skip
    refine l_iconst C (v := 0) dL_law_1771 (by decide) ?_
    exact l_iret C rfl dL_law_1772 h hres
noncomputable def f_law_31 (xs : Nat → Int32) (L : Nat) (i : Int32) (kk : sM → Option (sR Int32)) (m : sM) : Option (sR Int32) :=
  s_ix (i + 1) L fun j258 => s_bf 0 110 (f_L_statistic (xs j258) m) m fun r259 m260 => s_ix (i + 1) L fun j261 => s_bf 110 29 (f_X10_statistic (xs j261) m260) m260 fun r262 m263 => s_bf 110 29 (f_X10_thrown m263) m263 fun r264 m265 => if r264 = r259 then (s_jn (kk  m265) fun k1846 => if r259 = 0 then (s_ix 0 1 fun j266 => if (lg_cmp (m265.2 109 j266) (Int32.toInt64 r262)) = 0 then (k1846) else (some (.inl 0, m265))) else (k1846)) else (some (.inl 0, m265))
set_option maxRecDepth 20000 in
set_option maxHeartbeats 4000000 in
theorem c_law_31 {ad : Nat → Nat} {xs : Nat → Int32} {L scr : Nat} {res : sR Int32} {V : sV} {m9 : sM} (C : sCL ad xs L scr RL cL_law 7 wsL_law res V) (hres : res = (.inl 1, m9)) (n : Nat) (i : Int32) (kk : sM → Option (sR Int32)) (m : sM) (hk : ∀ m, kk m = some res → V (16 * n + 0) 2601 [(0, .ref scr), (1, .ref (ad 0)), (2, .ref (ad 110)), (3, .ref (ad 109)), (4, .int i)] [] m) (h : f_law_31 xs L i kk m = some res) : V (16 * n + 16) 1793 [(0, .ref scr), (1, .ref (ad 0)), (2, .ref (ad 110)), (3, .ref (ad 109)), (4, .int i)] [] m := by
  unfold f_law_31 at h
  refine l_aload_n C dL_law_1793 rfl 1 rfl ?_
  refine l_aload_n C dL_law_1794 rfl 0 rfl ?_
  refine l_iload C dL_law_1795 4 rfl ?_
  refine l_iconst C (v := 1) dL_law_1797 (by decide) ?_
  refine l_iadd C dL_law_1798 ?_
  refine l_iald C dL_law_1799 h (fun j258 _ h => ?_)
  refine l_aload_n C dL_law_1800 rfl 3 rfl ?_
  refine l_callS C (c_L_statistic (xs j258)) (by decide) (As := [.ref (ad 0), .int (xs j258), .ref (ad 109)]) (nn := 3) (stk := [.ref (ad 109), .int (xs j258), .ref (ad 0)]) dL_law_1801 gL_law_L_statistic ⟨by decide, by decide, by decide +kernel⟩ rfl rfl (by decide) rfl rfl (Nat.le_of_ble_eq_true rfl) (by omega) h (fun r259 m260 h => ?_)
  refine l_less C (b' := (16 * n + 15)) (by omega) ?_
  show V (16 * n + 15) 1804 [(0, .ref scr), (1, .ref (ad 0)), (2, .ref (ad 110)), (3, .ref (ad 109)), (4, .int i)] [.int r259] m260
  refine l_istore C dL_law_1804 (by decide) (show _ = [(5, .int r259), (0, .ref scr), (1, .ref (ad 0)), (2, .ref (ad 110)), (3, .ref (ad 109)), (4, .int i)] from rfl) ?_
  refine l_aload_n C dL_law_1806 rfl 3 rfl ?_
  refine l_aload_n C dL_law_1807 rfl 1 rfl ?_
  refine l_iload C dL_law_1808 5 rfl ?_
  refine l_iconst C (v := 1) dL_law_1810 (by decide) ?_
  refine l_iadd C dL_law_1811 ?_
  refine l_iald C dL_law_1812 h (fun j261 _ h => ?_)
  refine l_callV C (c_X10_statistic 29 (by omega) (xs j261)) (by decide) (As := [.int (xs j261)]) (nn := 1) (stk := [.int (xs j261), .ref (ad 110)]) (ci := 10) dL_law_1813 gL_law_X10_statistic ⟨rfl, by decide, by decide, by decide +kernel⟩ (by omega) la_110 rfl rfl rfl (by decide) rfl rfl (Nat.le_of_ble_eq_true rfl) (by omega) h (fun r262 m263 h => ?_)
  show V (16 * n + 15) 1816 [(5, .int r259), (0, .ref scr), (1, .ref (ad 0)), (2, .ref (ad 110)), (3, .ref (ad 109)), (4, .int i)] [.int r262] m263
  refine l_istore C dL_law_1816 (by decide) (show _ = [(6, .int r262), (5, .int r259), (0, .ref scr), (1, .ref (ad 0)), (2, .ref (ad 110)), (3, .ref (ad 109)), (4, .int i)] from rfl) ?_
  refine l_aload_n C dL_law_1818 rfl 4 rfl ?_
  refine l_callV C (c_X10_thrown 29 (by omega)) (by decide) (As := []) (nn := 0) (stk := [.ref (ad 110)]) (ci := 10) dL_law_1819 gL_law_X10_thrown ⟨rfl, by decide, by decide, by decide +kernel⟩ (by omega) la_110 rfl rfl rfl (by decide) rfl rfl (Nat.le_of_ble_eq_true rfl) (by omega) h (fun r264 m265 h => ?_)
  show V (16 * n + 15) 1822 [(6, .int r262), (5, .int r259), (0, .ref scr), (1, .ref (ad 0)), (2, .ref (ad 110)), (3, .ref (ad 109)), (4, .int i)] [.int r264] m265
  refine l_iload C dL_law_1822 1 rfl ?_
  refine l_icmp_eq C (tgt := 1829) dL_law_1824 (by decide) h (fun _ h => ?_) (fun _ h => ?_)
  · skip
    refine l_iload C dL_law_1829 1 rfl ?_
    refine s_join h (fun k1846 => k1846  = some res → V (16 * n + 15) 1846 [(0, .ref scr), (1, .ref (ad 0)), (2, .ref (ad 110)), (3, .ref (ad 109)), (4, .int i)] [] m265) ?_ (fun k1846 hk1846 h => ?_)
    · intro  h
      refine l_goto C (tgt := 2601) dL_law_1846 (by decide) ?_
      refine l_less C (b' := (16 * n + 0)) (by omega) ?_
      exact hk m265 h
    refine l_if_ne C (tgt := 1846) dL_law_1831 (by decide) h (fun _ h => ?_) (fun _ h => ?_)
    · skip
      refine l_aload_n C dL_law_1834 rfl 5 rfl ?_
      refine l_iconst C (v := 0) dL_law_1835 (by decide) ?_
      refine l_lald C dL_law_1836 (by omega) la_109 h (fun j266 _ h => ?_)
      refine l_iload C dL_law_1837 0 rfl ?_
      refine l_i2l C dL_law_1839 ?_
      refine l_lcmp C dL_law_1840 ?_
      refine l_if_eq C (tgt := 1846) dL_law_1841 (by decide) h (fun _ h => ?_) (fun _ h => ?_)
      · skip
        refine l_sub C [2, 3, 4, 5, 6] (show _ = [(0, .ref scr), (1, .ref (ad 0)), (2, .ref (ad 110)), (3, .ref (ad 109)), (4, .int i)] from rfl) ?_
        exact hk1846 h
      · skip
        refine l_iconst C (v := 0) dL_law_1844 (by decide) ?_
        exact l_iret C rfl dL_law_1845 h hres
    · skip
      refine l_sub C [2, 3, 4, 5, 6] (show _ = [(0, .ref scr), (1, .ref (ad 0)), (2, .ref (ad 110)), (3, .ref (ad 109)), (4, .int i)] from rfl) ?_
      exact hk1846 h
  · skip
    refine l_iconst C (v := 0) dL_law_1827 (by decide) ?_
    exact l_iret C rfl dL_law_1828 h hres
noncomputable def f_law_32 (xs : Nat → Int32) (L : Nat) (i : Int32) (kk : sM → Option (sR Int32)) (m : sM) : Option (sR Int32) :=
  s_bf 0 110 (f_L_pin m) m fun r267 m268 => s_bf 110 29 (f_X10_pin m268) m268 fun r269 m270 => s_bf 110 29 (f_X10_thrown m270) m270 fun r271 m272 => if r271 = r267 then (s_jn (kk  m272) fun k1890 => if r267 = 0 then (s_ix 0 1 fun j273 => if (lg_cmp (m272.2 109 j273) (Int32.toInt64 r269)) = 0 then (k1890) else (some (.inl 0, m272))) else (k1890)) else (some (.inl 0, m272))
set_option maxRecDepth 20000 in
set_option maxHeartbeats 4000000 in
theorem c_law_32 {ad : Nat → Nat} {xs : Nat → Int32} {L scr : Nat} {res : sR Int32} {V : sV} {m9 : sM} (C : sCL ad xs L scr RL cL_law 7 wsL_law res V) (hres : res = (.inl 1, m9)) (n : Nat) (i : Int32) (kk : sM → Option (sR Int32)) (m : sM) (hk : ∀ m, kk m = some res → V (16 * n + 0) 2601 [(0, .ref scr), (1, .ref (ad 0)), (2, .ref (ad 110)), (3, .ref (ad 109)), (4, .int i)] [] m) (h : f_law_32 xs L i kk m = some res) : V (16 * n + 16) 1849 [(0, .ref scr), (1, .ref (ad 0)), (2, .ref (ad 110)), (3, .ref (ad 109)), (4, .int i)] [] m := by
  unfold f_law_32 at h
  refine l_aload_n C dL_law_1849 rfl 1 rfl ?_
  refine l_aload_n C dL_law_1850 rfl 3 rfl ?_
  refine l_callS C c_L_pin (by decide) (As := [.ref (ad 0), .ref (ad 109)]) (nn := 2) (stk := [.ref (ad 109), .ref (ad 0)]) dL_law_1851 gL_law_L_pin ⟨by decide, by decide, by decide +kernel⟩ rfl rfl (by decide) rfl rfl (Nat.le_of_ble_eq_true rfl) (by omega) h (fun r267 m268 h => ?_)
  refine l_less C (b' := (16 * n + 14)) (by omega) ?_
  show V (16 * n + 14) 1854 [(0, .ref scr), (1, .ref (ad 0)), (2, .ref (ad 110)), (3, .ref (ad 109)), (4, .int i)] [.int r267] m268
  refine l_istore C dL_law_1854 (by decide) (show _ = [(5, .int r267), (0, .ref scr), (1, .ref (ad 0)), (2, .ref (ad 110)), (3, .ref (ad 109)), (4, .int i)] from rfl) ?_
  refine l_aload_n C dL_law_1856 rfl 3 rfl ?_
  refine l_callV C (c_X10_pin 29 (by omega)) (by decide) (As := []) (nn := 0) (stk := [.ref (ad 110)]) (ci := 10) dL_law_1857 gL_law_X10_pin ⟨rfl, by decide, by decide, by decide +kernel⟩ (by omega) la_110 rfl rfl rfl (by decide) rfl rfl (Nat.le_of_ble_eq_true rfl) (by omega) h (fun r269 m270 h => ?_)
  show V (16 * n + 14) 1860 [(5, .int r267), (0, .ref scr), (1, .ref (ad 0)), (2, .ref (ad 110)), (3, .ref (ad 109)), (4, .int i)] [.int r269] m270
  refine l_istore C dL_law_1860 (by decide) (show _ = [(6, .int r269), (5, .int r267), (0, .ref scr), (1, .ref (ad 0)), (2, .ref (ad 110)), (3, .ref (ad 109)), (4, .int i)] from rfl) ?_
  refine l_aload_n C dL_law_1862 rfl 4 rfl ?_
  refine l_callV C (c_X10_thrown 29 (by omega)) (by decide) (As := []) (nn := 0) (stk := [.ref (ad 110)]) (ci := 10) dL_law_1863 gL_law_X10_thrown ⟨rfl, by decide, by decide, by decide +kernel⟩ (by omega) la_110 rfl rfl rfl (by decide) rfl rfl (Nat.le_of_ble_eq_true rfl) (by omega) h (fun r271 m272 h => ?_)
  show V (16 * n + 14) 1866 [(6, .int r269), (5, .int r267), (0, .ref scr), (1, .ref (ad 0)), (2, .ref (ad 110)), (3, .ref (ad 109)), (4, .int i)] [.int r271] m272
  refine l_iload C dL_law_1866 1 rfl ?_
  refine l_icmp_eq C (tgt := 1873) dL_law_1868 (by decide) h (fun _ h => ?_) (fun _ h => ?_)
  · skip
    refine l_iload C dL_law_1873 1 rfl ?_
    refine s_join h (fun k1890 => k1890  = some res → V (16 * n + 14) 1890 [(0, .ref scr), (1, .ref (ad 0)), (2, .ref (ad 110)), (3, .ref (ad 109)), (4, .int i)] [] m272) ?_ (fun k1890 hk1890 h => ?_)
    · intro  h
      refine l_goto C (tgt := 2601) dL_law_1890 (by decide) ?_
      refine l_less C (b' := (16 * n + 0)) (by omega) ?_
      exact hk m272 h
    refine l_if_ne C (tgt := 1890) dL_law_1875 (by decide) h (fun _ h => ?_) (fun _ h => ?_)
    · skip
      refine l_aload_n C dL_law_1878 rfl 5 rfl ?_
      refine l_iconst C (v := 0) dL_law_1879 (by decide) ?_
      refine l_lald C dL_law_1880 (by omega) la_109 h (fun j273 _ h => ?_)
      refine l_iload C dL_law_1881 0 rfl ?_
      refine l_i2l C dL_law_1883 ?_
      refine l_lcmp C dL_law_1884 ?_
      refine l_if_eq C (tgt := 1890) dL_law_1885 (by decide) h (fun _ h => ?_) (fun _ h => ?_)
      · skip
        refine l_sub C [2, 3, 4, 5, 6] (show _ = [(0, .ref scr), (1, .ref (ad 0)), (2, .ref (ad 110)), (3, .ref (ad 109)), (4, .int i)] from rfl) ?_
        exact hk1890 h
      · skip
        refine l_iconst C (v := 0) dL_law_1888 (by decide) ?_
        exact l_iret C rfl dL_law_1889 h hres
    · skip
      refine l_sub C [2, 3, 4, 5, 6] (show _ = [(0, .ref scr), (1, .ref (ad 0)), (2, .ref (ad 110)), (3, .ref (ad 109)), (4, .int i)] from rfl) ?_
      exact hk1890 h
  · skip
    refine l_iconst C (v := 0) dL_law_1871 (by decide) ?_
    exact l_iret C rfl dL_law_1872 h hres
noncomputable def f_law_33 (xs : Nat → Int32) (L : Nat) (i : Int32) (kk : sM → Option (sR Int32)) (m : sM) : Option (sR Int32) :=
  s_ix (i + 1) L fun j274 => s_ix (i + 2) L fun j275 => s_bf 0 110 (f_L_pinnedValue (xs j274) (xs j275) m) m fun r276 m277 => s_ix (i + 1) L fun j278 => s_ix (i + 2) L fun j279 => s_bf 110 29 (f_X10_pinnedValue (xs j278) (xs j279) m277) m277 fun r280 m281 => s_bf 110 29 (f_X10_thrown m281) m281 fun r282 m283 => if r282 = r276 then (s_jn (kk  m283) fun k1958 => if r276 = 0 then (s_ix 0 1 fun j284 => if (lg_cmp (m283.2 109 j284) (Int32.toInt64 r280)) = 0 then (k1958) else (some (.inl 0, m283))) else (k1958)) else (some (.inl 0, m283))
set_option maxRecDepth 20000 in
set_option maxHeartbeats 4000000 in
theorem c_law_33 {ad : Nat → Nat} {xs : Nat → Int32} {L scr : Nat} {res : sR Int32} {V : sV} {m9 : sM} (C : sCL ad xs L scr RL cL_law 7 wsL_law res V) (hres : res = (.inl 1, m9)) (n : Nat) (i : Int32) (kk : sM → Option (sR Int32)) (m : sM) (hk : ∀ m, kk m = some res → V (16 * n + 0) 2601 [(0, .ref scr), (1, .ref (ad 0)), (2, .ref (ad 110)), (3, .ref (ad 109)), (4, .int i)] [] m) (h : f_law_33 xs L i kk m = some res) : V (16 * n + 16) 1893 [(0, .ref scr), (1, .ref (ad 0)), (2, .ref (ad 110)), (3, .ref (ad 109)), (4, .int i)] [] m := by
  unfold f_law_33 at h
  refine l_aload_n C dL_law_1893 rfl 1 rfl ?_
  refine l_aload_n C dL_law_1894 rfl 0 rfl ?_
  refine l_iload C dL_law_1895 4 rfl ?_
  refine l_iconst C (v := 1) dL_law_1897 (by decide) ?_
  refine l_iadd C dL_law_1898 ?_
  refine l_iald C dL_law_1899 h (fun j274 _ h => ?_)
  refine l_aload_n C dL_law_1900 rfl 0 rfl ?_
  refine l_iload C dL_law_1901 4 rfl ?_
  refine l_iconst C (v := 2) dL_law_1903 (by decide) ?_
  refine l_iadd C dL_law_1904 ?_
  refine l_iald C dL_law_1905 h (fun j275 _ h => ?_)
  refine l_aload_n C dL_law_1906 rfl 3 rfl ?_
  refine l_callS C (c_L_pinnedValue (xs j274) (xs j275)) (by decide) (As := [.ref (ad 0), .int (xs j274), .int (xs j275), .ref (ad 109)]) (nn := 4) (stk := [.ref (ad 109), .int (xs j275), .int (xs j274), .ref (ad 0)]) dL_law_1907 gL_law_L_pinnedValue ⟨by decide, by decide, by decide +kernel⟩ rfl rfl (by decide) rfl rfl (Nat.le_of_ble_eq_true rfl) (by omega) h (fun r276 m277 h => ?_)
  refine l_less C (b' := (16 * n + 12)) (by omega) ?_
  show V (16 * n + 12) 1910 [(0, .ref scr), (1, .ref (ad 0)), (2, .ref (ad 110)), (3, .ref (ad 109)), (4, .int i)] [.int r276] m277
  refine l_istore C dL_law_1910 (by decide) (show _ = [(5, .int r276), (0, .ref scr), (1, .ref (ad 0)), (2, .ref (ad 110)), (3, .ref (ad 109)), (4, .int i)] from rfl) ?_
  refine l_aload_n C dL_law_1912 rfl 3 rfl ?_
  refine l_aload_n C dL_law_1913 rfl 1 rfl ?_
  refine l_iload C dL_law_1914 5 rfl ?_
  refine l_iconst C (v := 1) dL_law_1916 (by decide) ?_
  refine l_iadd C dL_law_1917 ?_
  refine l_iald C dL_law_1918 h (fun j278 _ h => ?_)
  refine l_aload_n C dL_law_1919 rfl 1 rfl ?_
  refine l_iload C dL_law_1920 5 rfl ?_
  refine l_iconst C (v := 2) dL_law_1922 (by decide) ?_
  refine l_iadd C dL_law_1923 ?_
  refine l_iald C dL_law_1924 h (fun j279 _ h => ?_)
  refine l_callV C (c_X10_pinnedValue 29 (by omega) (xs j278) (xs j279)) (by decide) (As := [.int (xs j278), .int (xs j279)]) (nn := 2) (stk := [.int (xs j279), .int (xs j278), .ref (ad 110)]) (ci := 10) dL_law_1925 gL_law_X10_pinnedValue ⟨rfl, by decide, by decide, by decide +kernel⟩ (by omega) la_110 rfl rfl rfl (by decide) rfl rfl (Nat.le_of_ble_eq_true rfl) (by omega) h (fun r280 m281 h => ?_)
  show V (16 * n + 12) 1928 [(5, .int r276), (0, .ref scr), (1, .ref (ad 0)), (2, .ref (ad 110)), (3, .ref (ad 109)), (4, .int i)] [.int r280] m281
  refine l_istore C dL_law_1928 (by decide) (show _ = [(6, .int r280), (5, .int r276), (0, .ref scr), (1, .ref (ad 0)), (2, .ref (ad 110)), (3, .ref (ad 109)), (4, .int i)] from rfl) ?_
  refine l_aload_n C dL_law_1930 rfl 4 rfl ?_
  refine l_callV C (c_X10_thrown 29 (by omega)) (by decide) (As := []) (nn := 0) (stk := [.ref (ad 110)]) (ci := 10) dL_law_1931 gL_law_X10_thrown ⟨rfl, by decide, by decide, by decide +kernel⟩ (by omega) la_110 rfl rfl rfl (by decide) rfl rfl (Nat.le_of_ble_eq_true rfl) (by omega) h (fun r282 m283 h => ?_)
  show V (16 * n + 12) 1934 [(6, .int r280), (5, .int r276), (0, .ref scr), (1, .ref (ad 0)), (2, .ref (ad 110)), (3, .ref (ad 109)), (4, .int i)] [.int r282] m283
  refine l_iload C dL_law_1934 1 rfl ?_
  refine l_icmp_eq C (tgt := 1941) dL_law_1936 (by decide) h (fun _ h => ?_) (fun _ h => ?_)
  · skip
    refine l_iload C dL_law_1941 1 rfl ?_
    refine s_join h (fun k1958 => k1958  = some res → V (16 * n + 12) 1958 [(0, .ref scr), (1, .ref (ad 0)), (2, .ref (ad 110)), (3, .ref (ad 109)), (4, .int i)] [] m283) ?_ (fun k1958 hk1958 h => ?_)
    · intro  h
      refine l_goto C (tgt := 2601) dL_law_1958 (by decide) ?_
      refine l_less C (b' := (16 * n + 0)) (by omega) ?_
      exact hk m283 h
    refine l_if_ne C (tgt := 1958) dL_law_1943 (by decide) h (fun _ h => ?_) (fun _ h => ?_)
    · skip
      refine l_aload_n C dL_law_1946 rfl 5 rfl ?_
      refine l_iconst C (v := 0) dL_law_1947 (by decide) ?_
      refine l_lald C dL_law_1948 (by omega) la_109 h (fun j284 _ h => ?_)
      refine l_iload C dL_law_1949 0 rfl ?_
      refine l_i2l C dL_law_1951 ?_
      refine l_lcmp C dL_law_1952 ?_
      refine l_if_eq C (tgt := 1958) dL_law_1953 (by decide) h (fun _ h => ?_) (fun _ h => ?_)
      · skip
        refine l_sub C [2, 3, 4, 5, 6] (show _ = [(0, .ref scr), (1, .ref (ad 0)), (2, .ref (ad 110)), (3, .ref (ad 109)), (4, .int i)] from rfl) ?_
        exact hk1958 h
      · skip
        refine l_iconst C (v := 0) dL_law_1956 (by decide) ?_
        exact l_iret C rfl dL_law_1957 h hres
    · skip
      refine l_sub C [2, 3, 4, 5, 6] (show _ = [(0, .ref scr), (1, .ref (ad 0)), (2, .ref (ad 110)), (3, .ref (ad 109)), (4, .int i)] from rfl) ?_
      exact hk1958 h
  · skip
    refine l_iconst C (v := 0) dL_law_1939 (by decide) ?_
    exact l_iret C rfl dL_law_1940 h hres
noncomputable def f_law_34 (xs : Nat → Int32) (L : Nat) (i : Int32) (kk : sM → Option (sR Int32)) (m : sM) : Option (sR Int32) :=
  s_ix (i + 1) L fun j285 => s_bf 0 110 (f_L_pinnedCommit (xs j285) m) m fun r286 m287 => s_ix (i + 1) L fun j288 => s_bf 110 29 (f_X10_pinnedCommit (xs j288) m287) m287 fun r289 m290 => s_bf 110 29 (f_X10_thrown m290) m290 fun r291 m292 => if r291 = r286 then (s_jn (kk  m292) fun k2014 => if r286 = 0 then (s_ix 0 1 fun j293 => if (lg_cmp (m292.2 109 j293) (Int32.toInt64 r289)) = 0 then (k2014) else (some (.inl 0, m292))) else (k2014)) else (some (.inl 0, m292))
set_option maxRecDepth 20000 in
set_option maxHeartbeats 4000000 in
theorem c_law_34 {ad : Nat → Nat} {xs : Nat → Int32} {L scr : Nat} {res : sR Int32} {V : sV} {m9 : sM} (C : sCL ad xs L scr RL cL_law 7 wsL_law res V) (hres : res = (.inl 1, m9)) (n : Nat) (i : Int32) (kk : sM → Option (sR Int32)) (m : sM) (hk : ∀ m, kk m = some res → V (16 * n + 0) 2601 [(0, .ref scr), (1, .ref (ad 0)), (2, .ref (ad 110)), (3, .ref (ad 109)), (4, .int i)] [] m) (h : f_law_34 xs L i kk m = some res) : V (16 * n + 16) 1961 [(0, .ref scr), (1, .ref (ad 0)), (2, .ref (ad 110)), (3, .ref (ad 109)), (4, .int i)] [] m := by
  unfold f_law_34 at h
  refine l_aload_n C dL_law_1961 rfl 1 rfl ?_
  refine l_aload_n C dL_law_1962 rfl 0 rfl ?_
  refine l_iload C dL_law_1963 4 rfl ?_
  refine l_iconst C (v := 1) dL_law_1965 (by decide) ?_
  refine l_iadd C dL_law_1966 ?_
  refine l_iald C dL_law_1967 h (fun j285 _ h => ?_)
  refine l_aload_n C dL_law_1968 rfl 3 rfl ?_
  refine l_callS C (c_L_pinnedCommit (xs j285)) (by decide) (As := [.ref (ad 0), .int (xs j285), .ref (ad 109)]) (nn := 3) (stk := [.ref (ad 109), .int (xs j285), .ref (ad 0)]) dL_law_1969 gL_law_L_pinnedCommit ⟨by decide, by decide, by decide +kernel⟩ rfl rfl (by decide) rfl rfl (Nat.le_of_ble_eq_true rfl) (by omega) h (fun r286 m287 h => ?_)
  refine l_less C (b' := (16 * n + 14)) (by omega) ?_
  show V (16 * n + 14) 1972 [(0, .ref scr), (1, .ref (ad 0)), (2, .ref (ad 110)), (3, .ref (ad 109)), (4, .int i)] [.int r286] m287
  refine l_istore C dL_law_1972 (by decide) (show _ = [(5, .int r286), (0, .ref scr), (1, .ref (ad 0)), (2, .ref (ad 110)), (3, .ref (ad 109)), (4, .int i)] from rfl) ?_
  refine l_aload_n C dL_law_1974 rfl 3 rfl ?_
  refine l_aload_n C dL_law_1975 rfl 1 rfl ?_
  refine l_iload C dL_law_1976 5 rfl ?_
  refine l_iconst C (v := 1) dL_law_1978 (by decide) ?_
  refine l_iadd C dL_law_1979 ?_
  refine l_iald C dL_law_1980 h (fun j288 _ h => ?_)
  refine l_callV C (c_X10_pinnedCommit 29 (by omega) (xs j288)) (by decide) (As := [.int (xs j288)]) (nn := 1) (stk := [.int (xs j288), .ref (ad 110)]) (ci := 10) dL_law_1981 gL_law_X10_pinnedCommit ⟨rfl, by decide, by decide, by decide +kernel⟩ (by omega) la_110 rfl rfl rfl (by decide) rfl rfl (Nat.le_of_ble_eq_true rfl) (by omega) h (fun r289 m290 h => ?_)
  show V (16 * n + 14) 1984 [(5, .int r286), (0, .ref scr), (1, .ref (ad 0)), (2, .ref (ad 110)), (3, .ref (ad 109)), (4, .int i)] [.int r289] m290
  refine l_istore C dL_law_1984 (by decide) (show _ = [(6, .int r289), (5, .int r286), (0, .ref scr), (1, .ref (ad 0)), (2, .ref (ad 110)), (3, .ref (ad 109)), (4, .int i)] from rfl) ?_
  refine l_aload_n C dL_law_1986 rfl 4 rfl ?_
  refine l_callV C (c_X10_thrown 29 (by omega)) (by decide) (As := []) (nn := 0) (stk := [.ref (ad 110)]) (ci := 10) dL_law_1987 gL_law_X10_thrown ⟨rfl, by decide, by decide, by decide +kernel⟩ (by omega) la_110 rfl rfl rfl (by decide) rfl rfl (Nat.le_of_ble_eq_true rfl) (by omega) h (fun r291 m292 h => ?_)
  show V (16 * n + 14) 1990 [(6, .int r289), (5, .int r286), (0, .ref scr), (1, .ref (ad 0)), (2, .ref (ad 110)), (3, .ref (ad 109)), (4, .int i)] [.int r291] m292
  refine l_iload C dL_law_1990 1 rfl ?_
  refine l_icmp_eq C (tgt := 1997) dL_law_1992 (by decide) h (fun _ h => ?_) (fun _ h => ?_)
  · skip
    refine l_iload C dL_law_1997 1 rfl ?_
    refine s_join h (fun k2014 => k2014  = some res → V (16 * n + 14) 2014 [(0, .ref scr), (1, .ref (ad 0)), (2, .ref (ad 110)), (3, .ref (ad 109)), (4, .int i)] [] m292) ?_ (fun k2014 hk2014 h => ?_)
    · intro  h
      refine l_goto C (tgt := 2601) dL_law_2014 (by decide) ?_
      refine l_less C (b' := (16 * n + 0)) (by omega) ?_
      exact hk m292 h
    refine l_if_ne C (tgt := 2014) dL_law_1999 (by decide) h (fun _ h => ?_) (fun _ h => ?_)
    · skip
      refine l_aload_n C dL_law_2002 rfl 5 rfl ?_
      refine l_iconst C (v := 0) dL_law_2003 (by decide) ?_
      refine l_lald C dL_law_2004 (by omega) la_109 h (fun j293 _ h => ?_)
      refine l_iload C dL_law_2005 0 rfl ?_
      refine l_i2l C dL_law_2007 ?_
      refine l_lcmp C dL_law_2008 ?_
      refine l_if_eq C (tgt := 2014) dL_law_2009 (by decide) h (fun _ h => ?_) (fun _ h => ?_)
      · skip
        refine l_sub C [2, 3, 4, 5, 6] (show _ = [(0, .ref scr), (1, .ref (ad 0)), (2, .ref (ad 110)), (3, .ref (ad 109)), (4, .int i)] from rfl) ?_
        exact hk2014 h
      · skip
        refine l_iconst C (v := 0) dL_law_2012 (by decide) ?_
        exact l_iret C rfl dL_law_2013 h hres
    · skip
      refine l_sub C [2, 3, 4, 5, 6] (show _ = [(0, .ref scr), (1, .ref (ad 0)), (2, .ref (ad 110)), (3, .ref (ad 109)), (4, .int i)] from rfl) ?_
      exact hk2014 h
  · skip
    refine l_iconst C (v := 0) dL_law_1995 (by decide) ?_
    exact l_iret C rfl dL_law_1996 h hres
noncomputable def f_law_35 (xs : Nat → Int32) (L : Nat) (i : Int32) (kk : sM → Option (sR Int32)) (m : sM) : Option (sR Int32) :=
  s_ix (i + 1) L fun j294 => s_bf 0 110 (f_L_unpin (xs j294) m) m fun r295 m296 => s_ix (i + 1) L fun j297 => s_bf 110 29 (f_X10_unpin (xs j297) m296) m296 fun r298 m299 => s_bf 110 29 (f_X10_thrown m299) m299 fun r300 m301 => if r300 = r295 then (s_jn (kk  m301) fun k2070 => if r295 = 0 then (s_ix 0 1 fun j302 => if (lg_cmp (m301.2 109 j302) (Int32.toInt64 r298)) = 0 then (k2070) else (some (.inl 0, m301))) else (k2070)) else (some (.inl 0, m301))
set_option maxRecDepth 20000 in
set_option maxHeartbeats 4000000 in
theorem c_law_35 {ad : Nat → Nat} {xs : Nat → Int32} {L scr : Nat} {res : sR Int32} {V : sV} {m9 : sM} (C : sCL ad xs L scr RL cL_law 7 wsL_law res V) (hres : res = (.inl 1, m9)) (n : Nat) (i : Int32) (kk : sM → Option (sR Int32)) (m : sM) (hk : ∀ m, kk m = some res → V (16 * n + 0) 2601 [(0, .ref scr), (1, .ref (ad 0)), (2, .ref (ad 110)), (3, .ref (ad 109)), (4, .int i)] [] m) (h : f_law_35 xs L i kk m = some res) : V (16 * n + 16) 2017 [(0, .ref scr), (1, .ref (ad 0)), (2, .ref (ad 110)), (3, .ref (ad 109)), (4, .int i)] [] m := by
  unfold f_law_35 at h
  refine l_aload_n C dL_law_2017 rfl 1 rfl ?_
  refine l_aload_n C dL_law_2018 rfl 0 rfl ?_
  refine l_iload C dL_law_2019 4 rfl ?_
  refine l_iconst C (v := 1) dL_law_2021 (by decide) ?_
  refine l_iadd C dL_law_2022 ?_
  refine l_iald C dL_law_2023 h (fun j294 _ h => ?_)
  refine l_aload_n C dL_law_2024 rfl 3 rfl ?_
  refine l_callS C (c_L_unpin (xs j294)) (by decide) (As := [.ref (ad 0), .int (xs j294), .ref (ad 109)]) (nn := 3) (stk := [.ref (ad 109), .int (xs j294), .ref (ad 0)]) dL_law_2025 gL_law_L_unpin ⟨by decide, by decide, by decide +kernel⟩ rfl rfl (by decide) rfl rfl (Nat.le_of_ble_eq_true rfl) (by omega) h (fun r295 m296 h => ?_)
  refine l_less C (b' := (16 * n + 14)) (by omega) ?_
  show V (16 * n + 14) 2028 [(0, .ref scr), (1, .ref (ad 0)), (2, .ref (ad 110)), (3, .ref (ad 109)), (4, .int i)] [.int r295] m296
  refine l_istore C dL_law_2028 (by decide) (show _ = [(5, .int r295), (0, .ref scr), (1, .ref (ad 0)), (2, .ref (ad 110)), (3, .ref (ad 109)), (4, .int i)] from rfl) ?_
  refine l_aload_n C dL_law_2030 rfl 3 rfl ?_
  refine l_aload_n C dL_law_2031 rfl 1 rfl ?_
  refine l_iload C dL_law_2032 5 rfl ?_
  refine l_iconst C (v := 1) dL_law_2034 (by decide) ?_
  refine l_iadd C dL_law_2035 ?_
  refine l_iald C dL_law_2036 h (fun j297 _ h => ?_)
  refine l_callV C (c_X10_unpin 29 (by omega) (xs j297)) (by decide) (As := [.int (xs j297)]) (nn := 1) (stk := [.int (xs j297), .ref (ad 110)]) (ci := 10) dL_law_2037 gL_law_X10_unpin ⟨rfl, by decide, by decide, by decide +kernel⟩ (by omega) la_110 rfl rfl rfl (by decide) rfl rfl (Nat.le_of_ble_eq_true rfl) (by omega) h (fun r298 m299 h => ?_)
  show V (16 * n + 14) 2040 [(5, .int r295), (0, .ref scr), (1, .ref (ad 0)), (2, .ref (ad 110)), (3, .ref (ad 109)), (4, .int i)] [.int r298] m299
  refine l_istore C dL_law_2040 (by decide) (show _ = [(6, .int r298), (5, .int r295), (0, .ref scr), (1, .ref (ad 0)), (2, .ref (ad 110)), (3, .ref (ad 109)), (4, .int i)] from rfl) ?_
  refine l_aload_n C dL_law_2042 rfl 4 rfl ?_
  refine l_callV C (c_X10_thrown 29 (by omega)) (by decide) (As := []) (nn := 0) (stk := [.ref (ad 110)]) (ci := 10) dL_law_2043 gL_law_X10_thrown ⟨rfl, by decide, by decide, by decide +kernel⟩ (by omega) la_110 rfl rfl rfl (by decide) rfl rfl (Nat.le_of_ble_eq_true rfl) (by omega) h (fun r300 m301 h => ?_)
  show V (16 * n + 14) 2046 [(6, .int r298), (5, .int r295), (0, .ref scr), (1, .ref (ad 0)), (2, .ref (ad 110)), (3, .ref (ad 109)), (4, .int i)] [.int r300] m301
  refine l_iload C dL_law_2046 1 rfl ?_
  refine l_icmp_eq C (tgt := 2053) dL_law_2048 (by decide) h (fun _ h => ?_) (fun _ h => ?_)
  · skip
    refine l_iload C dL_law_2053 1 rfl ?_
    refine s_join h (fun k2070 => k2070  = some res → V (16 * n + 14) 2070 [(0, .ref scr), (1, .ref (ad 0)), (2, .ref (ad 110)), (3, .ref (ad 109)), (4, .int i)] [] m301) ?_ (fun k2070 hk2070 h => ?_)
    · intro  h
      refine l_goto C (tgt := 2601) dL_law_2070 (by decide) ?_
      refine l_less C (b' := (16 * n + 0)) (by omega) ?_
      exact hk m301 h
    refine l_if_ne C (tgt := 2070) dL_law_2055 (by decide) h (fun _ h => ?_) (fun _ h => ?_)
    · skip
      refine l_aload_n C dL_law_2058 rfl 5 rfl ?_
      refine l_iconst C (v := 0) dL_law_2059 (by decide) ?_
      refine l_lald C dL_law_2060 (by omega) la_109 h (fun j302 _ h => ?_)
      refine l_iload C dL_law_2061 0 rfl ?_
      refine l_i2l C dL_law_2063 ?_
      refine l_lcmp C dL_law_2064 ?_
      refine l_if_eq C (tgt := 2070) dL_law_2065 (by decide) h (fun _ h => ?_) (fun _ h => ?_)
      · skip
        refine l_sub C [2, 3, 4, 5, 6] (show _ = [(0, .ref scr), (1, .ref (ad 0)), (2, .ref (ad 110)), (3, .ref (ad 109)), (4, .int i)] from rfl) ?_
        exact hk2070 h
      · skip
        refine l_iconst C (v := 0) dL_law_2068 (by decide) ?_
        exact l_iret C rfl dL_law_2069 h hres
    · skip
      refine l_sub C [2, 3, 4, 5, 6] (show _ = [(0, .ref scr), (1, .ref (ad 0)), (2, .ref (ad 110)), (3, .ref (ad 109)), (4, .int i)] from rfl) ?_
      exact hk2070 h
  · skip
    refine l_iconst C (v := 0) dL_law_2051 (by decide) ?_
    exact l_iret C rfl dL_law_2052 h hres
noncomputable def f_law_36 (xs : Nat → Int32) (L : Nat) (i : Int32) (kk : sM → Option (sR Int32)) (m : sM) : Option (sR Int32) :=
  s_ix (i + 1) L fun j303 => s_bf 0 110 (f_L_differences (xs j303) m) m fun r304 m305 => s_ix (i + 1) L fun j306 => s_bf 110 29 (f_X10_differences (xs j306) m305) m305 fun r307 m308 => s_bf 110 29 (f_X10_thrown m308) m308 fun r309 m310 => if r309 = r304 then (s_jn (kk  m310) fun k2126 => if r304 = 0 then (s_ix 0 1 fun j311 => if (lg_cmp (m310.2 109 j311) (Int32.toInt64 r307)) = 0 then (k2126) else (some (.inl 0, m310))) else (k2126)) else (some (.inl 0, m310))
set_option maxRecDepth 20000 in
set_option maxHeartbeats 4000000 in
theorem c_law_36 {ad : Nat → Nat} {xs : Nat → Int32} {L scr : Nat} {res : sR Int32} {V : sV} {m9 : sM} (C : sCL ad xs L scr RL cL_law 7 wsL_law res V) (hres : res = (.inl 1, m9)) (n : Nat) (i : Int32) (kk : sM → Option (sR Int32)) (m : sM) (hk : ∀ m, kk m = some res → V (16 * n + 0) 2601 [(0, .ref scr), (1, .ref (ad 0)), (2, .ref (ad 110)), (3, .ref (ad 109)), (4, .int i)] [] m) (h : f_law_36 xs L i kk m = some res) : V (16 * n + 16) 2073 [(0, .ref scr), (1, .ref (ad 0)), (2, .ref (ad 110)), (3, .ref (ad 109)), (4, .int i)] [] m := by
  unfold f_law_36 at h
  refine l_aload_n C dL_law_2073 rfl 1 rfl ?_
  refine l_aload_n C dL_law_2074 rfl 0 rfl ?_
  refine l_iload C dL_law_2075 4 rfl ?_
  refine l_iconst C (v := 1) dL_law_2077 (by decide) ?_
  refine l_iadd C dL_law_2078 ?_
  refine l_iald C dL_law_2079 h (fun j303 _ h => ?_)
  refine l_aload_n C dL_law_2080 rfl 3 rfl ?_
  refine l_callS C (c_L_differences (xs j303)) (by decide) (As := [.ref (ad 0), .int (xs j303), .ref (ad 109)]) (nn := 3) (stk := [.ref (ad 109), .int (xs j303), .ref (ad 0)]) dL_law_2081 gL_law_L_differences ⟨by decide, by decide, by decide +kernel⟩ rfl rfl (by decide) rfl rfl (Nat.le_of_ble_eq_true rfl) (by omega) h (fun r304 m305 h => ?_)
  refine l_less C (b' := (16 * n + 14)) (by omega) ?_
  show V (16 * n + 14) 2084 [(0, .ref scr), (1, .ref (ad 0)), (2, .ref (ad 110)), (3, .ref (ad 109)), (4, .int i)] [.int r304] m305
  refine l_istore C dL_law_2084 (by decide) (show _ = [(5, .int r304), (0, .ref scr), (1, .ref (ad 0)), (2, .ref (ad 110)), (3, .ref (ad 109)), (4, .int i)] from rfl) ?_
  refine l_aload_n C dL_law_2086 rfl 3 rfl ?_
  refine l_aload_n C dL_law_2087 rfl 1 rfl ?_
  refine l_iload C dL_law_2088 5 rfl ?_
  refine l_iconst C (v := 1) dL_law_2090 (by decide) ?_
  refine l_iadd C dL_law_2091 ?_
  refine l_iald C dL_law_2092 h (fun j306 _ h => ?_)
  refine l_callV C (c_X10_differences 29 (by omega) (xs j306)) (by decide) (As := [.int (xs j306)]) (nn := 1) (stk := [.int (xs j306), .ref (ad 110)]) (ci := 10) dL_law_2093 gL_law_X10_differences ⟨rfl, by decide, by decide, by decide +kernel⟩ (by omega) la_110 rfl rfl rfl (by decide) rfl rfl (Nat.le_of_ble_eq_true rfl) (by omega) h (fun r307 m308 h => ?_)
  show V (16 * n + 14) 2096 [(5, .int r304), (0, .ref scr), (1, .ref (ad 0)), (2, .ref (ad 110)), (3, .ref (ad 109)), (4, .int i)] [.int r307] m308
  refine l_istore C dL_law_2096 (by decide) (show _ = [(6, .int r307), (5, .int r304), (0, .ref scr), (1, .ref (ad 0)), (2, .ref (ad 110)), (3, .ref (ad 109)), (4, .int i)] from rfl) ?_
  refine l_aload_n C dL_law_2098 rfl 4 rfl ?_
  refine l_callV C (c_X10_thrown 29 (by omega)) (by decide) (As := []) (nn := 0) (stk := [.ref (ad 110)]) (ci := 10) dL_law_2099 gL_law_X10_thrown ⟨rfl, by decide, by decide, by decide +kernel⟩ (by omega) la_110 rfl rfl rfl (by decide) rfl rfl (Nat.le_of_ble_eq_true rfl) (by omega) h (fun r309 m310 h => ?_)
  show V (16 * n + 14) 2102 [(6, .int r307), (5, .int r304), (0, .ref scr), (1, .ref (ad 0)), (2, .ref (ad 110)), (3, .ref (ad 109)), (4, .int i)] [.int r309] m310
  refine l_iload C dL_law_2102 1 rfl ?_
  refine l_icmp_eq C (tgt := 2109) dL_law_2104 (by decide) h (fun _ h => ?_) (fun _ h => ?_)
  · skip
    refine l_iload C dL_law_2109 1 rfl ?_
    refine s_join h (fun k2126 => k2126  = some res → V (16 * n + 14) 2126 [(0, .ref scr), (1, .ref (ad 0)), (2, .ref (ad 110)), (3, .ref (ad 109)), (4, .int i)] [] m310) ?_ (fun k2126 hk2126 h => ?_)
    · intro  h
      refine l_goto C (tgt := 2601) dL_law_2126 (by decide) ?_
      refine l_less C (b' := (16 * n + 0)) (by omega) ?_
      exact hk m310 h
    refine l_if_ne C (tgt := 2126) dL_law_2111 (by decide) h (fun _ h => ?_) (fun _ h => ?_)
    · skip
      refine l_aload_n C dL_law_2114 rfl 5 rfl ?_
      refine l_iconst C (v := 0) dL_law_2115 (by decide) ?_
      refine l_lald C dL_law_2116 (by omega) la_109 h (fun j311 _ h => ?_)
      refine l_iload C dL_law_2117 0 rfl ?_
      refine l_i2l C dL_law_2119 ?_
      refine l_lcmp C dL_law_2120 ?_
      refine l_if_eq C (tgt := 2126) dL_law_2121 (by decide) h (fun _ h => ?_) (fun _ h => ?_)
      · skip
        refine l_sub C [2, 3, 4, 5, 6] (show _ = [(0, .ref scr), (1, .ref (ad 0)), (2, .ref (ad 110)), (3, .ref (ad 109)), (4, .int i)] from rfl) ?_
        exact hk2126 h
      · skip
        refine l_iconst C (v := 0) dL_law_2124 (by decide) ?_
        exact l_iret C rfl dL_law_2125 h hres
    · skip
      refine l_sub C [2, 3, 4, 5, 6] (show _ = [(0, .ref scr), (1, .ref (ad 0)), (2, .ref (ad 110)), (3, .ref (ad 109)), (4, .int i)] from rfl) ?_
      exact hk2126 h
  · skip
    refine l_iconst C (v := 0) dL_law_2107 (by decide) ?_
    exact l_iret C rfl dL_law_2108 h hres
noncomputable def f_law_37 (xs : Nat → Int32) (L : Nat) (i : Int32) (kk : sM → Option (sR Int32)) (m : sM) : Option (sR Int32) :=
  s_ix (i + 1) L fun j312 => s_ix (i + 2) L fun j313 => s_bf 0 110 (f_L_differentKey (xs j312) (xs j313) m) m fun r314 m315 => s_ix (i + 1) L fun j316 => s_ix (i + 2) L fun j317 => s_bf 110 29 (f_X10_differentKey (xs j316) (xs j317) m315) m315 fun r318 m319 => s_bf 110 29 (f_X10_thrown m319) m319 fun r320 m321 => if r320 = r314 then (s_jn (kk  m321) fun k2194 => if r314 = 0 then (s_ix 0 1 fun j322 => if (lg_cmp (m321.2 109 j322) (Int32.toInt64 r318)) = 0 then (k2194) else (some (.inl 0, m321))) else (k2194)) else (some (.inl 0, m321))
set_option maxRecDepth 20000 in
set_option maxHeartbeats 4000000 in
theorem c_law_37 {ad : Nat → Nat} {xs : Nat → Int32} {L scr : Nat} {res : sR Int32} {V : sV} {m9 : sM} (C : sCL ad xs L scr RL cL_law 7 wsL_law res V) (hres : res = (.inl 1, m9)) (n : Nat) (i : Int32) (kk : sM → Option (sR Int32)) (m : sM) (hk : ∀ m, kk m = some res → V (16 * n + 0) 2601 [(0, .ref scr), (1, .ref (ad 0)), (2, .ref (ad 110)), (3, .ref (ad 109)), (4, .int i)] [] m) (h : f_law_37 xs L i kk m = some res) : V (16 * n + 16) 2129 [(0, .ref scr), (1, .ref (ad 0)), (2, .ref (ad 110)), (3, .ref (ad 109)), (4, .int i)] [] m := by
  unfold f_law_37 at h
  refine l_aload_n C dL_law_2129 rfl 1 rfl ?_
  refine l_aload_n C dL_law_2130 rfl 0 rfl ?_
  refine l_iload C dL_law_2131 4 rfl ?_
  refine l_iconst C (v := 1) dL_law_2133 (by decide) ?_
  refine l_iadd C dL_law_2134 ?_
  refine l_iald C dL_law_2135 h (fun j312 _ h => ?_)
  refine l_aload_n C dL_law_2136 rfl 0 rfl ?_
  refine l_iload C dL_law_2137 4 rfl ?_
  refine l_iconst C (v := 2) dL_law_2139 (by decide) ?_
  refine l_iadd C dL_law_2140 ?_
  refine l_iald C dL_law_2141 h (fun j313 _ h => ?_)
  refine l_aload_n C dL_law_2142 rfl 3 rfl ?_
  refine l_callS C (c_L_differentKey (xs j312) (xs j313)) (by decide) (As := [.ref (ad 0), .int (xs j312), .int (xs j313), .ref (ad 109)]) (nn := 4) (stk := [.ref (ad 109), .int (xs j313), .int (xs j312), .ref (ad 0)]) dL_law_2143 gL_law_L_differentKey ⟨by decide, by decide, by decide +kernel⟩ rfl rfl (by decide) rfl rfl (Nat.le_of_ble_eq_true rfl) (by omega) h (fun r314 m315 h => ?_)
  refine l_less C (b' := (16 * n + 13)) (by omega) ?_
  show V (16 * n + 13) 2146 [(0, .ref scr), (1, .ref (ad 0)), (2, .ref (ad 110)), (3, .ref (ad 109)), (4, .int i)] [.int r314] m315
  refine l_istore C dL_law_2146 (by decide) (show _ = [(5, .int r314), (0, .ref scr), (1, .ref (ad 0)), (2, .ref (ad 110)), (3, .ref (ad 109)), (4, .int i)] from rfl) ?_
  refine l_aload_n C dL_law_2148 rfl 3 rfl ?_
  refine l_aload_n C dL_law_2149 rfl 1 rfl ?_
  refine l_iload C dL_law_2150 5 rfl ?_
  refine l_iconst C (v := 1) dL_law_2152 (by decide) ?_
  refine l_iadd C dL_law_2153 ?_
  refine l_iald C dL_law_2154 h (fun j316 _ h => ?_)
  refine l_aload_n C dL_law_2155 rfl 1 rfl ?_
  refine l_iload C dL_law_2156 5 rfl ?_
  refine l_iconst C (v := 2) dL_law_2158 (by decide) ?_
  refine l_iadd C dL_law_2159 ?_
  refine l_iald C dL_law_2160 h (fun j317 _ h => ?_)
  refine l_callV C (c_X10_differentKey 29 (by omega) (xs j316) (xs j317)) (by decide) (As := [.int (xs j316), .int (xs j317)]) (nn := 2) (stk := [.int (xs j317), .int (xs j316), .ref (ad 110)]) (ci := 10) dL_law_2161 gL_law_X10_differentKey ⟨rfl, by decide, by decide, by decide +kernel⟩ (by omega) la_110 rfl rfl rfl (by decide) rfl rfl (Nat.le_of_ble_eq_true rfl) (by omega) h (fun r318 m319 h => ?_)
  show V (16 * n + 13) 2164 [(5, .int r314), (0, .ref scr), (1, .ref (ad 0)), (2, .ref (ad 110)), (3, .ref (ad 109)), (4, .int i)] [.int r318] m319
  refine l_istore C dL_law_2164 (by decide) (show _ = [(6, .int r318), (5, .int r314), (0, .ref scr), (1, .ref (ad 0)), (2, .ref (ad 110)), (3, .ref (ad 109)), (4, .int i)] from rfl) ?_
  refine l_aload_n C dL_law_2166 rfl 4 rfl ?_
  refine l_callV C (c_X10_thrown 29 (by omega)) (by decide) (As := []) (nn := 0) (stk := [.ref (ad 110)]) (ci := 10) dL_law_2167 gL_law_X10_thrown ⟨rfl, by decide, by decide, by decide +kernel⟩ (by omega) la_110 rfl rfl rfl (by decide) rfl rfl (Nat.le_of_ble_eq_true rfl) (by omega) h (fun r320 m321 h => ?_)
  show V (16 * n + 13) 2170 [(6, .int r318), (5, .int r314), (0, .ref scr), (1, .ref (ad 0)), (2, .ref (ad 110)), (3, .ref (ad 109)), (4, .int i)] [.int r320] m321
  refine l_iload C dL_law_2170 1 rfl ?_
  refine l_icmp_eq C (tgt := 2177) dL_law_2172 (by decide) h (fun _ h => ?_) (fun _ h => ?_)
  · skip
    refine l_iload C dL_law_2177 1 rfl ?_
    refine s_join h (fun k2194 => k2194  = some res → V (16 * n + 13) 2194 [(0, .ref scr), (1, .ref (ad 0)), (2, .ref (ad 110)), (3, .ref (ad 109)), (4, .int i)] [] m321) ?_ (fun k2194 hk2194 h => ?_)
    · intro  h
      refine l_goto C (tgt := 2601) dL_law_2194 (by decide) ?_
      refine l_less C (b' := (16 * n + 0)) (by omega) ?_
      exact hk m321 h
    refine l_if_ne C (tgt := 2194) dL_law_2179 (by decide) h (fun _ h => ?_) (fun _ h => ?_)
    · skip
      refine l_aload_n C dL_law_2182 rfl 5 rfl ?_
      refine l_iconst C (v := 0) dL_law_2183 (by decide) ?_
      refine l_lald C dL_law_2184 (by omega) la_109 h (fun j322 _ h => ?_)
      refine l_iload C dL_law_2185 0 rfl ?_
      refine l_i2l C dL_law_2187 ?_
      refine l_lcmp C dL_law_2188 ?_
      refine l_if_eq C (tgt := 2194) dL_law_2189 (by decide) h (fun _ h => ?_) (fun _ h => ?_)
      · skip
        refine l_sub C [2, 3, 4, 5, 6] (show _ = [(0, .ref scr), (1, .ref (ad 0)), (2, .ref (ad 110)), (3, .ref (ad 109)), (4, .int i)] from rfl) ?_
        exact hk2194 h
      · skip
        refine l_iconst C (v := 0) dL_law_2192 (by decide) ?_
        exact l_iret C rfl dL_law_2193 h hres
    · skip
      refine l_sub C [2, 3, 4, 5, 6] (show _ = [(0, .ref scr), (1, .ref (ad 0)), (2, .ref (ad 110)), (3, .ref (ad 109)), (4, .int i)] from rfl) ?_
      exact hk2194 h
  · skip
    refine l_iconst C (v := 0) dL_law_2175 (by decide) ?_
    exact l_iret C rfl dL_law_2176 h hres
noncomputable def f_law_38 (xs : Nat → Int32) (L : Nat) (i : Int32) (kk : sM → Option (sR Int32)) (m : sM) : Option (sR Int32) :=
  s_ix (i + 1) L fun j323 => s_ix (i + 2) L fun j324 => s_bf 0 110 (f_L_cell (xs j323) (xs j324) m) m fun r325 m326 => s_ix (i + 1) L fun j327 => s_ix (i + 2) L fun j328 => s_bf 110 29 (f_X10_cell (xs j327) (xs j328) m326) m326 fun r329 m330 => s_bf 110 29 (f_X10_thrown m330) m330 fun r331 m332 => if r331 = r325 then (s_jn (kk  m332) fun k2262 => if r325 = 0 then (s_ix 0 1 fun j333 => if (lg_cmp (m332.2 109 j333) (Int32.toInt64 r329)) = 0 then (k2262) else (some (.inl 0, m332))) else (k2262)) else (some (.inl 0, m332))
set_option maxRecDepth 20000 in
set_option maxHeartbeats 4000000 in
theorem c_law_38 {ad : Nat → Nat} {xs : Nat → Int32} {L scr : Nat} {res : sR Int32} {V : sV} {m9 : sM} (C : sCL ad xs L scr RL cL_law 7 wsL_law res V) (hres : res = (.inl 1, m9)) (n : Nat) (i : Int32) (kk : sM → Option (sR Int32)) (m : sM) (hk : ∀ m, kk m = some res → V (16 * n + 0) 2601 [(0, .ref scr), (1, .ref (ad 0)), (2, .ref (ad 110)), (3, .ref (ad 109)), (4, .int i)] [] m) (h : f_law_38 xs L i kk m = some res) : V (16 * n + 16) 2197 [(0, .ref scr), (1, .ref (ad 0)), (2, .ref (ad 110)), (3, .ref (ad 109)), (4, .int i)] [] m := by
  unfold f_law_38 at h
  refine l_aload_n C dL_law_2197 rfl 1 rfl ?_
  refine l_aload_n C dL_law_2198 rfl 0 rfl ?_
  refine l_iload C dL_law_2199 4 rfl ?_
  refine l_iconst C (v := 1) dL_law_2201 (by decide) ?_
  refine l_iadd C dL_law_2202 ?_
  refine l_iald C dL_law_2203 h (fun j323 _ h => ?_)
  refine l_aload_n C dL_law_2204 rfl 0 rfl ?_
  refine l_iload C dL_law_2205 4 rfl ?_
  refine l_iconst C (v := 2) dL_law_2207 (by decide) ?_
  refine l_iadd C dL_law_2208 ?_
  refine l_iald C dL_law_2209 h (fun j324 _ h => ?_)
  refine l_aload_n C dL_law_2210 rfl 3 rfl ?_
  refine l_callS C (c_L_cell (xs j323) (xs j324)) (by decide) (As := [.ref (ad 0), .int (xs j323), .int (xs j324), .ref (ad 109)]) (nn := 4) (stk := [.ref (ad 109), .int (xs j324), .int (xs j323), .ref (ad 0)]) dL_law_2211 gL_law_L_cell ⟨by decide, by decide, by decide +kernel⟩ rfl rfl (by decide) rfl rfl (Nat.le_of_ble_eq_true rfl) (by omega) h (fun r325 m326 h => ?_)
  refine l_less C (b' := (16 * n + 14)) (by omega) ?_
  show V (16 * n + 14) 2214 [(0, .ref scr), (1, .ref (ad 0)), (2, .ref (ad 110)), (3, .ref (ad 109)), (4, .int i)] [.int r325] m326
  refine l_istore C dL_law_2214 (by decide) (show _ = [(5, .int r325), (0, .ref scr), (1, .ref (ad 0)), (2, .ref (ad 110)), (3, .ref (ad 109)), (4, .int i)] from rfl) ?_
  refine l_aload_n C dL_law_2216 rfl 3 rfl ?_
  refine l_aload_n C dL_law_2217 rfl 1 rfl ?_
  refine l_iload C dL_law_2218 5 rfl ?_
  refine l_iconst C (v := 1) dL_law_2220 (by decide) ?_
  refine l_iadd C dL_law_2221 ?_
  refine l_iald C dL_law_2222 h (fun j327 _ h => ?_)
  refine l_aload_n C dL_law_2223 rfl 1 rfl ?_
  refine l_iload C dL_law_2224 5 rfl ?_
  refine l_iconst C (v := 2) dL_law_2226 (by decide) ?_
  refine l_iadd C dL_law_2227 ?_
  refine l_iald C dL_law_2228 h (fun j328 _ h => ?_)
  refine l_callV C (c_X10_cell 29 (by omega) (xs j327) (xs j328)) (by decide) (As := [.int (xs j327), .int (xs j328)]) (nn := 2) (stk := [.int (xs j328), .int (xs j327), .ref (ad 110)]) (ci := 10) dL_law_2229 gL_law_X10_cell ⟨rfl, by decide, by decide, by decide +kernel⟩ (by omega) la_110 rfl rfl rfl (by decide) rfl rfl (Nat.le_of_ble_eq_true rfl) (by omega) h (fun r329 m330 h => ?_)
  show V (16 * n + 14) 2232 [(5, .int r325), (0, .ref scr), (1, .ref (ad 0)), (2, .ref (ad 110)), (3, .ref (ad 109)), (4, .int i)] [.int r329] m330
  refine l_istore C dL_law_2232 (by decide) (show _ = [(6, .int r329), (5, .int r325), (0, .ref scr), (1, .ref (ad 0)), (2, .ref (ad 110)), (3, .ref (ad 109)), (4, .int i)] from rfl) ?_
  refine l_aload_n C dL_law_2234 rfl 4 rfl ?_
  refine l_callV C (c_X10_thrown 29 (by omega)) (by decide) (As := []) (nn := 0) (stk := [.ref (ad 110)]) (ci := 10) dL_law_2235 gL_law_X10_thrown ⟨rfl, by decide, by decide, by decide +kernel⟩ (by omega) la_110 rfl rfl rfl (by decide) rfl rfl (Nat.le_of_ble_eq_true rfl) (by omega) h (fun r331 m332 h => ?_)
  show V (16 * n + 14) 2238 [(6, .int r329), (5, .int r325), (0, .ref scr), (1, .ref (ad 0)), (2, .ref (ad 110)), (3, .ref (ad 109)), (4, .int i)] [.int r331] m332
  refine l_iload C dL_law_2238 1 rfl ?_
  refine l_icmp_eq C (tgt := 2245) dL_law_2240 (by decide) h (fun _ h => ?_) (fun _ h => ?_)
  · skip
    refine l_iload C dL_law_2245 1 rfl ?_
    refine s_join h (fun k2262 => k2262  = some res → V (16 * n + 14) 2262 [(0, .ref scr), (1, .ref (ad 0)), (2, .ref (ad 110)), (3, .ref (ad 109)), (4, .int i)] [] m332) ?_ (fun k2262 hk2262 h => ?_)
    · intro  h
      refine l_goto C (tgt := 2601) dL_law_2262 (by decide) ?_
      refine l_less C (b' := (16 * n + 0)) (by omega) ?_
      exact hk m332 h
    refine l_if_ne C (tgt := 2262) dL_law_2247 (by decide) h (fun _ h => ?_) (fun _ h => ?_)
    · skip
      refine l_aload_n C dL_law_2250 rfl 5 rfl ?_
      refine l_iconst C (v := 0) dL_law_2251 (by decide) ?_
      refine l_lald C dL_law_2252 (by omega) la_109 h (fun j333 _ h => ?_)
      refine l_iload C dL_law_2253 0 rfl ?_
      refine l_i2l C dL_law_2255 ?_
      refine l_lcmp C dL_law_2256 ?_
      refine l_if_eq C (tgt := 2262) dL_law_2257 (by decide) h (fun _ h => ?_) (fun _ h => ?_)
      · skip
        refine l_sub C [2, 3, 4, 5, 6] (show _ = [(0, .ref scr), (1, .ref (ad 0)), (2, .ref (ad 110)), (3, .ref (ad 109)), (4, .int i)] from rfl) ?_
        exact hk2262 h
      · skip
        refine l_iconst C (v := 0) dL_law_2260 (by decide) ?_
        exact l_iret C rfl dL_law_2261 h hres
    · skip
      refine l_sub C [2, 3, 4, 5, 6] (show _ = [(0, .ref scr), (1, .ref (ad 0)), (2, .ref (ad 110)), (3, .ref (ad 109)), (4, .int i)] from rfl) ?_
      exact hk2262 h
  · skip
    refine l_iconst C (v := 0) dL_law_2243 (by decide) ?_
    exact l_iret C rfl dL_law_2244 h hres
noncomputable def f_law_39 (xs : Nat → Int32) (L : Nat) (i : Int32) (kk : sM → Option (sR Int32)) (m : sM) : Option (sR Int32) :=
  s_ix (i + 1) L fun j334 => s_ix (i + 2) L fun j335 => s_ix (i + 3) L fun j336 => s_bf 0 110 (f_L_damage (xs j334) (xs j335) (xs j336) m) m fun r337 m338 => s_ix (i + 1) L fun j339 => s_ix (i + 2) L fun j340 => s_ix (i + 3) L fun j341 => s_bf 110 29 (f_X10_damage (xs j339) (xs j340) (xs j341) m338) m338 fun r342 m343 => s_bf 110 29 (f_X10_thrown m343) m343 fun r344 m345 => if r344 = r337 then (s_jn (kk  m345) fun k2342 => if r337 = 0 then (s_ix 0 1 fun j346 => if (lg_cmp (m345.2 109 j346) (Int32.toInt64 r342)) = 0 then (k2342) else (some (.inl 0, m345))) else (k2342)) else (some (.inl 0, m345))
set_option maxRecDepth 20000 in
set_option maxHeartbeats 4000000 in
theorem c_law_39 {ad : Nat → Nat} {xs : Nat → Int32} {L scr : Nat} {res : sR Int32} {V : sV} {m9 : sM} (C : sCL ad xs L scr RL cL_law 7 wsL_law res V) (hres : res = (.inl 1, m9)) (n : Nat) (i : Int32) (kk : sM → Option (sR Int32)) (m : sM) (hk : ∀ m, kk m = some res → V (16 * n + 0) 2601 [(0, .ref scr), (1, .ref (ad 0)), (2, .ref (ad 110)), (3, .ref (ad 109)), (4, .int i)] [] m) (h : f_law_39 xs L i kk m = some res) : V (16 * n + 16) 2265 [(0, .ref scr), (1, .ref (ad 0)), (2, .ref (ad 110)), (3, .ref (ad 109)), (4, .int i)] [] m := by
  unfold f_law_39 at h
  refine l_aload_n C dL_law_2265 rfl 1 rfl ?_
  refine l_aload_n C dL_law_2266 rfl 0 rfl ?_
  refine l_iload C dL_law_2267 4 rfl ?_
  refine l_iconst C (v := 1) dL_law_2269 (by decide) ?_
  refine l_iadd C dL_law_2270 ?_
  refine l_iald C dL_law_2271 h (fun j334 _ h => ?_)
  refine l_aload_n C dL_law_2272 rfl 0 rfl ?_
  refine l_iload C dL_law_2273 4 rfl ?_
  refine l_iconst C (v := 2) dL_law_2275 (by decide) ?_
  refine l_iadd C dL_law_2276 ?_
  refine l_iald C dL_law_2277 h (fun j335 _ h => ?_)
  refine l_aload_n C dL_law_2278 rfl 0 rfl ?_
  refine l_iload C dL_law_2279 4 rfl ?_
  refine l_iconst C (v := 3) dL_law_2281 (by decide) ?_
  refine l_iadd C dL_law_2282 ?_
  refine l_iald C dL_law_2283 h (fun j336 _ h => ?_)
  refine l_aload_n C dL_law_2284 rfl 3 rfl ?_
  refine l_callS C (c_L_damage (xs j334) (xs j335) (xs j336)) (by decide) (As := [.ref (ad 0), .int (xs j334), .int (xs j335), .int (xs j336), .ref (ad 109)]) (nn := 5) (stk := [.ref (ad 109), .int (xs j336), .int (xs j335), .int (xs j334), .ref (ad 0)]) dL_law_2285 gL_law_L_damage ⟨by decide, by decide, by decide +kernel⟩ rfl rfl (by decide) rfl rfl (Nat.le_of_ble_eq_true rfl) (by omega) h (fun r337 m338 h => ?_)
  refine l_less C (b' := (16 * n + 14)) (by omega) ?_
  show V (16 * n + 14) 2288 [(0, .ref scr), (1, .ref (ad 0)), (2, .ref (ad 110)), (3, .ref (ad 109)), (4, .int i)] [.int r337] m338
  refine l_istore C dL_law_2288 (by decide) (show _ = [(5, .int r337), (0, .ref scr), (1, .ref (ad 0)), (2, .ref (ad 110)), (3, .ref (ad 109)), (4, .int i)] from rfl) ?_
  refine l_aload_n C dL_law_2290 rfl 3 rfl ?_
  refine l_aload_n C dL_law_2291 rfl 1 rfl ?_
  refine l_iload C dL_law_2292 5 rfl ?_
  refine l_iconst C (v := 1) dL_law_2294 (by decide) ?_
  refine l_iadd C dL_law_2295 ?_
  refine l_iald C dL_law_2296 h (fun j339 _ h => ?_)
  refine l_aload_n C dL_law_2297 rfl 1 rfl ?_
  refine l_iload C dL_law_2298 5 rfl ?_
  refine l_iconst C (v := 2) dL_law_2300 (by decide) ?_
  refine l_iadd C dL_law_2301 ?_
  refine l_iald C dL_law_2302 h (fun j340 _ h => ?_)
  refine l_aload_n C dL_law_2303 rfl 1 rfl ?_
  refine l_iload C dL_law_2304 5 rfl ?_
  refine l_iconst C (v := 3) dL_law_2306 (by decide) ?_
  refine l_iadd C dL_law_2307 ?_
  refine l_iald C dL_law_2308 h (fun j341 _ h => ?_)
  refine l_callV C (c_X10_damage 29 (by omega) (xs j339) (xs j340) (xs j341)) (by decide) (As := [.int (xs j339), .int (xs j340), .int (xs j341)]) (nn := 3) (stk := [.int (xs j341), .int (xs j340), .int (xs j339), .ref (ad 110)]) (ci := 10) dL_law_2309 gL_law_X10_damage ⟨rfl, by decide, by decide, by decide +kernel⟩ (by omega) la_110 rfl rfl rfl (by decide) rfl rfl (Nat.le_of_ble_eq_true rfl) (by omega) h (fun r342 m343 h => ?_)
  show V (16 * n + 14) 2312 [(5, .int r337), (0, .ref scr), (1, .ref (ad 0)), (2, .ref (ad 110)), (3, .ref (ad 109)), (4, .int i)] [.int r342] m343
  refine l_istore C dL_law_2312 (by decide) (show _ = [(6, .int r342), (5, .int r337), (0, .ref scr), (1, .ref (ad 0)), (2, .ref (ad 110)), (3, .ref (ad 109)), (4, .int i)] from rfl) ?_
  refine l_aload_n C dL_law_2314 rfl 4 rfl ?_
  refine l_callV C (c_X10_thrown 29 (by omega)) (by decide) (As := []) (nn := 0) (stk := [.ref (ad 110)]) (ci := 10) dL_law_2315 gL_law_X10_thrown ⟨rfl, by decide, by decide, by decide +kernel⟩ (by omega) la_110 rfl rfl rfl (by decide) rfl rfl (Nat.le_of_ble_eq_true rfl) (by omega) h (fun r344 m345 h => ?_)
  show V (16 * n + 14) 2318 [(6, .int r342), (5, .int r337), (0, .ref scr), (1, .ref (ad 0)), (2, .ref (ad 110)), (3, .ref (ad 109)), (4, .int i)] [.int r344] m345
  refine l_iload C dL_law_2318 1 rfl ?_
  refine l_icmp_eq C (tgt := 2325) dL_law_2320 (by decide) h (fun _ h => ?_) (fun _ h => ?_)
  · skip
    refine l_iload C dL_law_2325 1 rfl ?_
    refine s_join h (fun k2342 => k2342  = some res → V (16 * n + 14) 2342 [(0, .ref scr), (1, .ref (ad 0)), (2, .ref (ad 110)), (3, .ref (ad 109)), (4, .int i)] [] m345) ?_ (fun k2342 hk2342 h => ?_)
    · intro  h
      refine l_goto C (tgt := 2601) dL_law_2342 (by decide) ?_
      refine l_less C (b' := (16 * n + 0)) (by omega) ?_
      exact hk m345 h
    refine l_if_ne C (tgt := 2342) dL_law_2327 (by decide) h (fun _ h => ?_) (fun _ h => ?_)
    · skip
      refine l_aload_n C dL_law_2330 rfl 5 rfl ?_
      refine l_iconst C (v := 0) dL_law_2331 (by decide) ?_
      refine l_lald C dL_law_2332 (by omega) la_109 h (fun j346 _ h => ?_)
      refine l_iload C dL_law_2333 0 rfl ?_
      refine l_i2l C dL_law_2335 ?_
      refine l_lcmp C dL_law_2336 ?_
      refine l_if_eq C (tgt := 2342) dL_law_2337 (by decide) h (fun _ h => ?_) (fun _ h => ?_)
      · skip
        refine l_sub C [2, 3, 4, 5, 6] (show _ = [(0, .ref scr), (1, .ref (ad 0)), (2, .ref (ad 110)), (3, .ref (ad 109)), (4, .int i)] from rfl) ?_
        exact hk2342 h
      · skip
        refine l_iconst C (v := 0) dL_law_2340 (by decide) ?_
        exact l_iret C rfl dL_law_2341 h hres
    · skip
      refine l_sub C [2, 3, 4, 5, 6] (show _ = [(0, .ref scr), (1, .ref (ad 0)), (2, .ref (ad 110)), (3, .ref (ad 109)), (4, .int i)] from rfl) ?_
      exact hk2342 h
  · skip
    refine l_iconst C (v := 0) dL_law_2323 (by decide) ?_
    exact l_iret C rfl dL_law_2324 h hres
noncomputable def f_law_40 (xs : Nat → Int32) (L : Nat) (i : Int32) (kk : sM → Option (sR Int32)) (m : sM) : Option (sR Int32) :=
  s_ix (i + 1) L fun j347 => s_bf 0 110 (f_L_checksum (xs j347) m) m fun r348 m349 => s_ix (i + 1) L fun j350 => s_bf 110 29 (f_X10_checksum (xs j350) m349) m349 fun r351 m352 => s_bf 110 29 (f_X10_thrown m352) m352 fun r353 m354 => if r353 = r348 then (s_jn (kk  m354) fun k2398 => if r348 = 0 then (s_ix 0 1 fun j355 => if (lg_cmp (m354.2 109 j355) (Int32.toInt64 r351)) = 0 then (k2398) else (some (.inl 0, m354))) else (k2398)) else (some (.inl 0, m354))
set_option maxRecDepth 20000 in
set_option maxHeartbeats 4000000 in
theorem c_law_40 {ad : Nat → Nat} {xs : Nat → Int32} {L scr : Nat} {res : sR Int32} {V : sV} {m9 : sM} (C : sCL ad xs L scr RL cL_law 7 wsL_law res V) (hres : res = (.inl 1, m9)) (n : Nat) (i : Int32) (kk : sM → Option (sR Int32)) (m : sM) (hk : ∀ m, kk m = some res → V (16 * n + 0) 2601 [(0, .ref scr), (1, .ref (ad 0)), (2, .ref (ad 110)), (3, .ref (ad 109)), (4, .int i)] [] m) (h : f_law_40 xs L i kk m = some res) : V (16 * n + 16) 2345 [(0, .ref scr), (1, .ref (ad 0)), (2, .ref (ad 110)), (3, .ref (ad 109)), (4, .int i)] [] m := by
  unfold f_law_40 at h
  refine l_aload_n C dL_law_2345 rfl 1 rfl ?_
  refine l_aload_n C dL_law_2346 rfl 0 rfl ?_
  refine l_iload C dL_law_2347 4 rfl ?_
  refine l_iconst C (v := 1) dL_law_2349 (by decide) ?_
  refine l_iadd C dL_law_2350 ?_
  refine l_iald C dL_law_2351 h (fun j347 _ h => ?_)
  refine l_aload_n C dL_law_2352 rfl 3 rfl ?_
  refine l_callS C (c_L_checksum (xs j347)) (by decide) (As := [.ref (ad 0), .int (xs j347), .ref (ad 109)]) (nn := 3) (stk := [.ref (ad 109), .int (xs j347), .ref (ad 0)]) dL_law_2353 gL_law_L_checksum ⟨by decide, by decide, by decide +kernel⟩ rfl rfl (by decide) rfl rfl (Nat.le_of_ble_eq_true rfl) (by omega) h (fun r348 m349 h => ?_)
  refine l_less C (b' := (16 * n + 15)) (by omega) ?_
  show V (16 * n + 15) 2356 [(0, .ref scr), (1, .ref (ad 0)), (2, .ref (ad 110)), (3, .ref (ad 109)), (4, .int i)] [.int r348] m349
  refine l_istore C dL_law_2356 (by decide) (show _ = [(5, .int r348), (0, .ref scr), (1, .ref (ad 0)), (2, .ref (ad 110)), (3, .ref (ad 109)), (4, .int i)] from rfl) ?_
  refine l_aload_n C dL_law_2358 rfl 3 rfl ?_
  refine l_aload_n C dL_law_2359 rfl 1 rfl ?_
  refine l_iload C dL_law_2360 5 rfl ?_
  refine l_iconst C (v := 1) dL_law_2362 (by decide) ?_
  refine l_iadd C dL_law_2363 ?_
  refine l_iald C dL_law_2364 h (fun j350 _ h => ?_)
  refine l_callV C (c_X10_checksum 29 (by omega) (xs j350)) (by decide) (As := [.int (xs j350)]) (nn := 1) (stk := [.int (xs j350), .ref (ad 110)]) (ci := 10) dL_law_2365 gL_law_X10_checksum ⟨rfl, by decide, by decide, by decide +kernel⟩ (by omega) la_110 rfl rfl rfl (by decide) rfl rfl (Nat.le_of_ble_eq_true rfl) (by omega) h (fun r351 m352 h => ?_)
  show V (16 * n + 15) 2368 [(5, .int r348), (0, .ref scr), (1, .ref (ad 0)), (2, .ref (ad 110)), (3, .ref (ad 109)), (4, .int i)] [.int r351] m352
  refine l_istore C dL_law_2368 (by decide) (show _ = [(6, .int r351), (5, .int r348), (0, .ref scr), (1, .ref (ad 0)), (2, .ref (ad 110)), (3, .ref (ad 109)), (4, .int i)] from rfl) ?_
  refine l_aload_n C dL_law_2370 rfl 4 rfl ?_
  refine l_callV C (c_X10_thrown 29 (by omega)) (by decide) (As := []) (nn := 0) (stk := [.ref (ad 110)]) (ci := 10) dL_law_2371 gL_law_X10_thrown ⟨rfl, by decide, by decide, by decide +kernel⟩ (by omega) la_110 rfl rfl rfl (by decide) rfl rfl (Nat.le_of_ble_eq_true rfl) (by omega) h (fun r353 m354 h => ?_)
  show V (16 * n + 15) 2374 [(6, .int r351), (5, .int r348), (0, .ref scr), (1, .ref (ad 0)), (2, .ref (ad 110)), (3, .ref (ad 109)), (4, .int i)] [.int r353] m354
  refine l_iload C dL_law_2374 1 rfl ?_
  refine l_icmp_eq C (tgt := 2381) dL_law_2376 (by decide) h (fun _ h => ?_) (fun _ h => ?_)
  · skip
    refine l_iload C dL_law_2381 1 rfl ?_
    refine s_join h (fun k2398 => k2398  = some res → V (16 * n + 15) 2398 [(0, .ref scr), (1, .ref (ad 0)), (2, .ref (ad 110)), (3, .ref (ad 109)), (4, .int i)] [] m354) ?_ (fun k2398 hk2398 h => ?_)
    · intro  h
      refine l_goto C (tgt := 2601) dL_law_2398 (by decide) ?_
      refine l_less C (b' := (16 * n + 0)) (by omega) ?_
      exact hk m354 h
    refine l_if_ne C (tgt := 2398) dL_law_2383 (by decide) h (fun _ h => ?_) (fun _ h => ?_)
    · skip
      refine l_aload_n C dL_law_2386 rfl 5 rfl ?_
      refine l_iconst C (v := 0) dL_law_2387 (by decide) ?_
      refine l_lald C dL_law_2388 (by omega) la_109 h (fun j355 _ h => ?_)
      refine l_iload C dL_law_2389 0 rfl ?_
      refine l_i2l C dL_law_2391 ?_
      refine l_lcmp C dL_law_2392 ?_
      refine l_if_eq C (tgt := 2398) dL_law_2393 (by decide) h (fun _ h => ?_) (fun _ h => ?_)
      · skip
        refine l_sub C [2, 3, 4, 5, 6] (show _ = [(0, .ref scr), (1, .ref (ad 0)), (2, .ref (ad 110)), (3, .ref (ad 109)), (4, .int i)] from rfl) ?_
        exact hk2398 h
      · skip
        refine l_iconst C (v := 0) dL_law_2396 (by decide) ?_
        exact l_iret C rfl dL_law_2397 h hres
    · skip
      refine l_sub C [2, 3, 4, 5, 6] (show _ = [(0, .ref scr), (1, .ref (ad 0)), (2, .ref (ad 110)), (3, .ref (ad 109)), (4, .int i)] from rfl) ?_
      exact hk2398 h
  · skip
    refine l_iconst C (v := 0) dL_law_2379 (by decide) ?_
    exact l_iret C rfl dL_law_2380 h hres
noncomputable def f_law_41 (xs : Nat → Int32) (L : Nat) (i : Int32) (kk : sM → Option (sR Int32)) (m : sM) : Option (sR Int32) :=
  s_ix (i + 1) L fun j356 => s_bf 0 110 (f_L_isValid (xs j356) m) m fun r357 m358 => s_ix (i + 1) L fun j359 => s_bf 110 29 (f_X10_isValid (xs j359) m358) m358 fun r360 m361 => s_bf 110 29 (f_X10_thrown m361) m361 fun r362 m363 => if r362 = r357 then (s_jn (kk  m363) fun k2461 => if r357 = 0 then (s_ix 0 1 fun j364 => s_jn (fun (s0_2455 : Int64) => if (lg_cmp (m363.2 109 j364) s0_2455) = 0 then (k2461) else (some (.inl 0, m363))) fun k2455 => if r360 = 0 then (k2455 0) else (k2455 1)) else (k2461)) else (some (.inl 0, m363))
set_option maxRecDepth 20000 in
set_option maxHeartbeats 4000000 in
theorem c_law_41 {ad : Nat → Nat} {xs : Nat → Int32} {L scr : Nat} {res : sR Int32} {V : sV} {m9 : sM} (C : sCL ad xs L scr RL cL_law 7 wsL_law res V) (hres : res = (.inl 1, m9)) (n : Nat) (i : Int32) (kk : sM → Option (sR Int32)) (m : sM) (hk : ∀ m, kk m = some res → V (16 * n + 0) 2601 [(0, .ref scr), (1, .ref (ad 0)), (2, .ref (ad 110)), (3, .ref (ad 109)), (4, .int i)] [] m) (h : f_law_41 xs L i kk m = some res) : V (16 * n + 16) 2401 [(0, .ref scr), (1, .ref (ad 0)), (2, .ref (ad 110)), (3, .ref (ad 109)), (4, .int i)] [] m := by
  unfold f_law_41 at h
  refine l_aload_n C dL_law_2401 rfl 1 rfl ?_
  refine l_aload_n C dL_law_2402 rfl 0 rfl ?_
  refine l_iload C dL_law_2403 4 rfl ?_
  refine l_iconst C (v := 1) dL_law_2405 (by decide) ?_
  refine l_iadd C dL_law_2406 ?_
  refine l_iald C dL_law_2407 h (fun j356 _ h => ?_)
  refine l_aload_n C dL_law_2408 rfl 3 rfl ?_
  refine l_callS C (c_L_isValid (xs j356)) (by decide) (As := [.ref (ad 0), .int (xs j356), .ref (ad 109)]) (nn := 3) (stk := [.ref (ad 109), .int (xs j356), .ref (ad 0)]) dL_law_2409 gL_law_L_isValid ⟨by decide, by decide, by decide +kernel⟩ rfl rfl (by decide) rfl rfl (Nat.le_of_ble_eq_true rfl) (by omega) h (fun r357 m358 h => ?_)
  refine l_less C (b' := (16 * n + 15)) (by omega) ?_
  show V (16 * n + 15) 2412 [(0, .ref scr), (1, .ref (ad 0)), (2, .ref (ad 110)), (3, .ref (ad 109)), (4, .int i)] [.int r357] m358
  refine l_istore C dL_law_2412 (by decide) (show _ = [(5, .int r357), (0, .ref scr), (1, .ref (ad 0)), (2, .ref (ad 110)), (3, .ref (ad 109)), (4, .int i)] from rfl) ?_
  refine l_aload_n C dL_law_2414 rfl 3 rfl ?_
  refine l_aload_n C dL_law_2415 rfl 1 rfl ?_
  refine l_iload C dL_law_2416 5 rfl ?_
  refine l_iconst C (v := 1) dL_law_2418 (by decide) ?_
  refine l_iadd C dL_law_2419 ?_
  refine l_iald C dL_law_2420 h (fun j359 _ h => ?_)
  refine l_callV C (c_X10_isValid 29 (by omega) (xs j359)) (by decide) (As := [.int (xs j359)]) (nn := 1) (stk := [.int (xs j359), .ref (ad 110)]) (ci := 10) dL_law_2421 gL_law_X10_isValid ⟨rfl, by decide, by decide, by decide +kernel⟩ (by omega) la_110 rfl rfl rfl (by decide) rfl rfl (Nat.le_of_ble_eq_true rfl) (by omega) h (fun r360 m361 h => ?_)
  show V (16 * n + 15) 2424 [(5, .int r357), (0, .ref scr), (1, .ref (ad 0)), (2, .ref (ad 110)), (3, .ref (ad 109)), (4, .int i)] [.int r360] m361
  refine l_istore C dL_law_2424 (by decide) (show _ = [(6, .int r360), (5, .int r357), (0, .ref scr), (1, .ref (ad 0)), (2, .ref (ad 110)), (3, .ref (ad 109)), (4, .int i)] from rfl) ?_
  refine l_aload_n C dL_law_2426 rfl 4 rfl ?_
  refine l_callV C (c_X10_thrown 29 (by omega)) (by decide) (As := []) (nn := 0) (stk := [.ref (ad 110)]) (ci := 10) dL_law_2427 gL_law_X10_thrown ⟨rfl, by decide, by decide, by decide +kernel⟩ (by omega) la_110 rfl rfl rfl (by decide) rfl rfl (Nat.le_of_ble_eq_true rfl) (by omega) h (fun r362 m363 h => ?_)
  show V (16 * n + 15) 2430 [(6, .int r360), (5, .int r357), (0, .ref scr), (1, .ref (ad 0)), (2, .ref (ad 110)), (3, .ref (ad 109)), (4, .int i)] [.int r362] m363
  refine l_iload C dL_law_2430 1 rfl ?_
  refine l_icmp_eq C (tgt := 2437) dL_law_2432 (by decide) h (fun _ h => ?_) (fun _ h => ?_)
  · skip
    refine l_iload C dL_law_2437 1 rfl ?_
    refine s_join h (fun k2461 => k2461  = some res → V (16 * n + 15) 2461 [(0, .ref scr), (1, .ref (ad 0)), (2, .ref (ad 110)), (3, .ref (ad 109)), (4, .int i)] [] m363) ?_ (fun k2461 hk2461 h => ?_)
    · intro  h
      refine l_goto C (tgt := 2601) dL_law_2461 (by decide) ?_
      refine l_less C (b' := (16 * n + 0)) (by omega) ?_
      exact hk m363 h
    refine l_if_ne C (tgt := 2461) dL_law_2439 (by decide) h (fun _ h => ?_) (fun _ h => ?_)
    · skip
      refine l_aload_n C dL_law_2442 rfl 5 rfl ?_
      refine l_iconst C (v := 0) dL_law_2443 (by decide) ?_
      refine l_lald C dL_law_2444 (by omega) la_109 h (fun j364 _ h => ?_)
      refine l_iload C dL_law_2445 0 rfl ?_
      refine s_join h (fun k2455 => ∀ (s0_2455 : Int64), k2455 s0_2455 = some res → V (16 * n + 15) 2455 [(0, .ref scr), (1, .ref (ad 0)), (2, .ref (ad 110)), (3, .ref (ad 109)), (4, .int i)] [.long s0_2455, .long (m363.2 109 j364)] m363) ?_ (fun k2455 hk2455 h => ?_)
      · intro s0_2455 h
        refine l_lcmp C dL_law_2455 ?_
        refine l_if_eq C (tgt := 2461) dL_law_2456 (by decide) h (fun _ h => ?_) (fun _ h => ?_)
        · skip
          exact hk2461 h
        · skip
          refine l_iconst C (v := 0) dL_law_2459 (by decide) ?_
          exact l_iret C rfl dL_law_2460 h hres
      refine l_if_eq C (tgt := 2454) dL_law_2447 (by decide) h (fun _ h => ?_) (fun _ h => ?_)
      · skip
        refine l_lconst C (v := 0) dL_law_2454 (by decide) ?_
        refine l_sub C [2, 3, 4, 5, 6] (show _ = [(0, .ref scr), (1, .ref (ad 0)), (2, .ref (ad 110)), (3, .ref (ad 109)), (4, .int i)] from rfl) ?_
        exact hk2455 0 h
      · skip
        refine l_lconst C (v := 1) dL_law_2450 (by decide) ?_
        refine l_goto C (tgt := 2455) dL_law_2451 (by decide) ?_
        refine l_sub C [2, 3, 4, 5, 6] (show _ = [(0, .ref scr), (1, .ref (ad 0)), (2, .ref (ad 110)), (3, .ref (ad 109)), (4, .int i)] from rfl) ?_
        exact hk2455 1 h
    · skip
      refine l_sub C [2, 3, 4, 5, 6] (show _ = [(0, .ref scr), (1, .ref (ad 0)), (2, .ref (ad 110)), (3, .ref (ad 109)), (4, .int i)] from rfl) ?_
      exact hk2461 h
  · skip
    refine l_iconst C (v := 0) dL_law_2435 (by decide) ?_
    exact l_iret C rfl dL_law_2436 h hres
