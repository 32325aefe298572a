/-! PURE: numbers; the number of bits of a long. -/
theorem ixl {α : Type} {n N : Nat} (k : Nat → Option α) (h : (OfNat.ofNat n : Nat) < N) (hN : N < 2 ^ 31) : s_ix (no_index (OfNat.ofNat n) : Int32) N k = k (OfNat.ofNat n : Nat) := ix_ k h hN
theorem llN {n b : Nat} (hn : (OfNat.ofNat n : Nat) < 2 ^ 31) (hb : b < 2 ^ 31) : ((no_index (OfNat.ofNat n) : Int32) ≤ nI b) = ((OfNat.ofNat n : Nat) ≤ b) := propext (nI_leI hn hb)
theorem lNl {n b : Nat} (hn : (OfNat.ofNat n : Nat) < 2 ^ 31) (hb : b < 2 ^ 31) : (nI b ≤ (no_index (OfNat.ofNat n) : Int32)) = (b ≤ (OfNat.ofNat n : Nat)) := propext (nI_leI hb hn)
theorem tlN {n b : Nat} (hn : (OfNat.ofNat n : Nat) < 2 ^ 31) (hb : b < 2 ^ 31) : ((no_index (OfNat.ofNat n) : Int32) < nI b) = ((OfNat.ofNat n : Nat) < b) := propext (nI_ltI hn hb)
theorem tNl {n b : Nat} (hn : (OfNat.ofNat n : Nat) < 2 ^ 31) (hb : b < 2 ^ 31) : (nI b < (no_index (OfNat.ofNat n) : Int32)) = (b < (OfNat.ofNat n : Nat)) := propext (nI_ltI hb hn)
theorem eNl {n b : Nat} (hn : (OfNat.ofNat n : Nat) < 2 ^ 31) (hb : b < 2 ^ 31) : (nI b = (no_index (OfNat.ofNat n) : Int32)) = (b = (OfNat.ofNat n : Nat)) := propext (nI_eq hb hn)
theorem lNN {a b : Nat} (ha : a < 2 ^ 31) (hb : b < 2 ^ 31) : (nI a ≤ nI b) = (a ≤ b) := propext (nI_leI ha hb)
theorem tNN {a b : Nat} (ha : a < 2 ^ 31) (hb : b < 2 ^ 31) : (nI a < nI b) = (a < b) := propext (nI_ltI ha hb)
theorem eNN {a b : Nat} (ha : a < 2 ^ 31) (hb : b < 2 ^ 31) : (nI a = nI b) = (a = b) := propext (nI_eq ha hb)
theorem aNl (a n : Nat) : nI a + (no_index (OfNat.ofNat n) : Int32) = nI (a + (OfNat.ofNat n : Nat)) := nI_add a n
theorem alN (a n : Nat) : (no_index (OfNat.ofNat n) : Int32) + nI a = nI ((OfNat.ofNat n : Nat) + a) := nI_add n a
theorem mlN (a n : Nat) : (no_index (OfNat.ofNat n) : Int32) * nI a = nI ((OfNat.ofNat n : Nat) * a) := pk_mul n a
theorem sNl {a n : Nat} (h : (OfNat.ofNat n : Nat) ≤ a) : nI a - (no_index (OfNat.ofNat n) : Int32) = nI (a - (OfNat.ofNat n : Nat)) := pk_sub h
theorem m1N {n : Nat} (h : 0 < n) : nI n + (-1) = nI (n - 1) := by
  have := pk_m1 (n - 1)
  rwa [Nat.sub_add_cancel h] at this
theorem nIm1 {n : Nat} (h : n < 2 ^ 31) : ¬ nI n = -1 := by
  intro e
  have h2 := nI_toInt h
  rw [e] at h2
  have h3 : (-1 : Int32).toInt = -1 := by decide
  omega
theorem neg_lt0 {n : Nat} (h : n < 2 ^ 31) : (nI n < 0) = False := eq_false (nI_pos h)
theorem bool_if (b : Bool) : (if b = true then (1 : Int32) else 0) = bi b := rfl
theorem fitsInt (x : Int32) : fits .int (.int x) = true := rfl
theorem fitsB {x : Int32} (h : x = 0 ∨ x = 1) : fits .boolean (.int x) = true := by rcases h with rfl | rfl <;> rfl
theorem fitsBb (b : Bool) : fits .boolean (.int (bi b)) = true := fitsB (bi_01 b)
theorem nar0 : vp_nar .boolean 0 = 0 := by decide
theorem nar1 : vp_nar .boolean 1 = 1 := by decide
theorem narb (b : Bool) : vp_nar .boolean (bi b) = bi b := by cases b <;> decide
theorem narc (x : Int32) : narrow .char (.int (vp_nar .char x)) = .int (vp_nar .char x) := by
  have e : vp_nar .char x = (x.toUInt32 % 65536).toInt32 := by
    rw [vp_nar_char]
    apply congrArg UInt32.toInt32
    apply UInt32.toNat_inj.mp
    rw [UInt32.toNat_mod]
    simp
  rw [e]
  exact pk_nc x
/-! the number of bits -/
theorem and256 (a b : Nat) : a &&& b = 256 * ((a / 256) &&& (b / 256)) + ((a % 256) &&& (b % 256)) := by
  have h1 := Nat.and_div_two_pow (a := a) (b := b) (n := 8)
  have h2 := Nat.and_mod_two_pow (a := a) (b := b) (n := 8)
  have h3 := Nat.div_add_mod (a &&& b) 256
  simp only [Nat.reducePow] at h1 h2
  rw [h1, h2] at h3
  omega
def pmk (c : Nat) : Nat → Nat
  | 0 => 0
  | n + 1 => 256 * pmk c n + c
def pq1 (n x : Nat) : Nat := x - ((x / 2) &&& pmk 0x55 n)
def pq2 (n x : Nat) : Nat := (x &&& pmk 0x33 n) + ((x / 4) &&& pmk 0x33 n)
def pq3 (n x : Nat) : Nat := (x + x / 16) &&& pmk 0x0f n
theorem pmk_d {c : Nat} (hc : c < 256) (n : Nat) : pmk c (n + 1) / 256 = pmk c n ∧ pmk c (n + 1) % 256 = c := by
  show (256 * pmk c n + c) / 256 = _ ∧ (256 * pmk c n + c) % 256 = c
  omega
theorem pa1 : ∀ l, l < 256 → ((l / 2) &&& 0x55) = ((128 + l / 2) &&& 0x55) := by decide +kernel
theorem pq1_s (n h l : Nat) (hl : l < 256) : pq1 (n + 1) (256 * h + l) = 256 * pq1 n h + pq1 1 l := by
  unfold pq1
  rw [and256 ((256 * h + l) / 2), (pmk_d (by decide : (0x55 : Nat) < 256) n).1, (pmk_d (by decide : (0x55 : Nat) < 256) n).2]
  have e1 : (256 * h + l) / 2 / 256 = h / 2 := by omega
  have e2 : ((256 * h + l) / 2 % 256 &&& 0x55) = ((l / 2) &&& 0x55) := by
    rcases Nat.mod_two_eq_zero_or_one h with q | q
    · have : (256 * h + l) / 2 % 256 = l / 2 := by omega
      rw [this]
    · have : (256 * h + l) / 2 % 256 = 128 + l / 2 := by omega
      rw [this, ← pa1 l hl]
  rw [e1, e2]
  have b1 : (h / 2 &&& pmk 0x55 n) ≤ h / 2 := Nat.and_le_left
  have b2 : (l / 2 &&& 0x55) ≤ l / 2 := Nat.and_le_left
  show _ = 256 * (h - (h / 2 &&& pmk 0x55 n)) + (l - (l / 2 &&& 0x55))
  omega
theorem pa2 : ∀ l, l < 256 → ∀ r, r < 4 → ((l / 4) &&& 0x33) = ((64 * r + l / 4) &&& 0x33) := by decide +kernel
theorem pq2_s (n h l : Nat) (hl : l < 256) : pq2 (n + 1) (256 * h + l) = 256 * pq2 n h + pq2 1 l := by
  unfold pq2
  rw [and256 (256 * h + l), and256 ((256 * h + l) / 4), (pmk_d (by decide : (0x33 : Nat) < 256) n).1, (pmk_d (by decide : (0x33 : Nat) < 256) n).2]
  have e0 : (256 * h + l) / 256 = h := by omega
  have e00 : (256 * h + l) % 256 = l := by omega
  have e1 : (256 * h + l) / 4 / 256 = h / 4 := by omega
  have e2 : ((256 * h + l) / 4 % 256 &&& 0x33) = ((l / 4) &&& 0x33) := by
    have : (256 * h + l) / 4 % 256 = 64 * (h % 4) + l / 4 := by omega
    rw [this, ← pa2 l hl (h % 4) (by omega)]
  rw [e0, e00, e1, e2]
  show _ = 256 * ((h &&& pmk 0x33 n) + (h / 4 &&& pmk 0x33 n)) + ((l &&& 0x33) + (l / 4 &&& 0x33))
  omega
def pqa (n x : Nat) : Nat := pq2 n (pq1 n x)
theorem pq1_b : ∀ l, l < 256 → pq1 1 l < 256 := by decide +kernel
theorem pqa_s (n h l : Nat) (hl : l < 256) : pqa (n + 1) (256 * h + l) = 256 * pqa n h + pqa 1 l := by
  unfold pqa
  rw [pq1_s n h l hl, pq2_s n _ _ (pq1_b l hl)]
theorem pqa_b : ∀ l, l < 256 → pqa 1 l ≤ 68 ∧ pqa 1 l % 16 ≤ 4 := by decide +kernel
theorem pqa_n (n x : Nat) : pqa n x % 16 ≤ 4 := by
  cases n with
  | zero =>
    have : pqa 0 x = 0 := by
      show ((x - (x / 2 &&& 0)) &&& 0) + ((x - (x / 2 &&& 0)) / 4 &&& 0) = 0
      rw [Nat.and_zero, Nat.and_zero]
    rw [this]; decide
  | succ n =>
    have e : x = 256 * (x / 256) + x % 256 := (Nat.div_add_mod x 256).symm
    rw [e, pqa_s n _ _ (Nat.mod_lt _ (by decide))]
    have := (pqa_b (x % 256) (Nat.mod_lt _ (by decide))).2
    omega
theorem pa3 : ∀ s, s < 256 → (s &&& 0x0f) = s % 16 := by decide +kernel
theorem pq3_s (n H L : Nat) (hL : L ≤ 68) (hH : H % 16 ≤ 4) : pq3 (n + 1) (256 * H + L) = 256 * pq3 n H + pq3 1 L := by
  unfold pq3
  rw [and256 (256 * H + L + (256 * H + L) / 16), (pmk_d (by decide : (0x0f : Nat) < 256) n).1, (pmk_d (by decide : (0x0f : Nat) < 256) n).2]
  have e1 : (256 * H + L + (256 * H + L) / 16) / 256 = H + H / 16 := by omega
  have e2 : (256 * H + L + (256 * H + L) / 16) % 256 % 16 = (L + L / 16) % 16 := by omega
  rw [e1, pa3 _ (Nat.mod_lt _ (by decide)), e2]
  show _ = 256 * (H + H / 16 &&& pmk 0x0f n) + (L + L / 16 &&& 0x0f)
  rw [pa3 (L + L / 16) (by omega)]
def pqq (n x : Nat) : Nat := pq3 n (pqa n x)
theorem pqq_s (n x : Nat) : pqq (n + 1) x = 256 * pqq n (x / 256) + pqq 1 (x % 256) := by
  unfold pqq
  have hl := Nat.mod_lt x (show 256 > 0 by decide)
  have e : pqa (n + 1) x = 256 * pqa n (x / 256) + pqa 1 (x % 256) := by
    have := pqa_s n (x / 256) (x % 256) hl
    rwa [Nat.div_add_mod] at this
  rw [e, pq3_s n _ _ (pqa_b _ hl).1 (pqa_n n _)]
theorem pqq_0 (x : Nat) : pqq 0 x = 0 := by
  show (_ &&& 0) = 0
  rw [Nat.and_zero]
def psm : Nat → Nat → Nat
  | 0, _ => 0
  | n + 1, x => pqq 1 (x % 256) + psm n (x / 256)
theorem pqq_c : ∀ l, l < 256 → pqq 1 l = fb_ct (fun k => l.testBit k) 8 := by decide +kernel
theorem psm_ct : ∀ n x, psm n x = fb_ct (fun k => x.testBit k) (8 * n)
  | 0, _ => rfl
  | n + 1, x => by
    show pqq 1 (x % 256) + psm n (x / 256) = _
    rw [show 8 * (n + 1) = 8 + 8 * n by omega, fb_ct_split, psm_ct n, pqq_c _ (Nat.mod_lt _ (by decide))]
    congr 1
    · refine fb_ct_cong fun k hk => ?_
      have := Nat.testBit_mod_two_pow x 8 k
      simp only [Nat.reducePow] at this
      rw [this, decide_eq_true hk]
      rfl
    · refine fb_ct_cong fun k hk => ?_
      have := Nat.testBit_div_two_pow (n := 8) x k
      simp only [Nat.reducePow] at this
      rw [this, Nat.add_comm]
theorem pqq_8 (l : Nat) (hl : l < 256) : pqq 1 l ≤ 8 := by rw [pqq_c l hl]; exact fb_ct_le _ _
theorem pfin (x : Nat) : let z := pqq 8 x
    let z4 := z + z / 256
    let z5 := z4 + z4 / 65536
    (z5 + z5 / 4294967296) % 128 = psm 8 x := by
  intro z z4 z5
  have u : ∀ y, y % 256 < 256 := fun y => Nat.mod_lt _ (by decide)
  have b0 := pqq_8 _ (u x)
  have b1 := pqq_8 _ (u (x / 256))
  have b2 := pqq_8 _ (u (x / 256 / 256))
  have b3 := pqq_8 _ (u (x / 256 / 256 / 256))
  have b4 := pqq_8 _ (u (x / 256 / 256 / 256 / 256))
  have b5 := pqq_8 _ (u (x / 256 / 256 / 256 / 256 / 256))
  have b6 := pqq_8 _ (u (x / 256 / 256 / 256 / 256 / 256 / 256))
  have b7 := pqq_8 _ (u (x / 256 / 256 / 256 / 256 / 256 / 256 / 256))
  have hs : psm 8 x = pqq 1 (x % 256) + (pqq 1 (x / 256 % 256) + (pqq 1 (x / 256 / 256 % 256) + (pqq 1 (x / 256 / 256 / 256 % 256) + (pqq 1 (x / 256 / 256 / 256 / 256 % 256) + (pqq 1 (x / 256 / 256 / 256 / 256 / 256 % 256) + (pqq 1 (x / 256 / 256 / 256 / 256 / 256 / 256 % 256) + (pqq 1 (x / 256 / 256 / 256 / 256 / 256 / 256 / 256 % 256) + 0))))))) := rfl
  have hz : z = 256 * (256 * (256 * (256 * (256 * (256 * (256 * (256 * 0 + pqq 1 (x / 256 / 256 / 256 / 256 / 256 / 256 / 256 % 256)) + pqq 1 (x / 256 / 256 / 256 / 256 / 256 / 256 % 256)) + pqq 1 (x / 256 / 256 / 256 / 256 / 256 % 256)) + pqq 1 (x / 256 / 256 / 256 / 256 % 256)) + pqq 1 (x / 256 / 256 / 256 % 256)) + pqq 1 (x / 256 / 256 % 256)) + pqq 1 (x / 256 % 256)) + pqq 1 (x % 256) := by
    show pqq 8 x = _
    rw [pqq_s 7, pqq_s 6, pqq_s 5, pqq_s 4, pqq_s 3, pqq_s 2, pqq_s 1, pqq_s 0 (x / 256 / 256 / 256 / 256 / 256 / 256 / 256), pqq_0]
  rw [hs]
  show ((z + z / 256 + (z + z / 256) / 65536) + (z + z / 256 + (z + z / 256) / 65536) / 4294967296) % 128 = _
  generalize pqq 1 (x % 256) = p0 at *
  generalize pqq 1 (x / 256 % 256) = p1 at *
  generalize pqq 1 (x / 256 / 256 % 256) = p2 at *
  generalize pqq 1 (x / 256 / 256 / 256 % 256) = p3 at *
  generalize pqq 1 (x / 256 / 256 / 256 / 256 % 256) = p4 at *
  generalize pqq 1 (x / 256 / 256 / 256 / 256 / 256 % 256) = p5 at *
  generalize pqq 1 (x / 256 / 256 / 256 / 256 / 256 / 256 % 256) = p6 at *
  generalize pqq 1 (x / 256 / 256 / 256 / 256 / 256 / 256 / 256 % 256) = p7 at *
  clear_value z
  have hz2 : z = p0 + 256 * p1 + 65536 * p2 + 16777216 * p3 + 4294967296 * p4 + 1099511627776 * p5 + 281474976710656 * p6 + 72057594037927936 * p7 := by rw [hz]; omega
  clear hz
  have a1 : z / 256 = p1 + 256 * p2 + 65536 * p3 + 16777216 * p4 + 4294967296 * p5 + 1099511627776 * p6 + 281474976710656 * p7 := by omega
  have a2 : (z + z / 256) / 65536 = (p2 + p3) + 256 * (p3 + p4) + 65536 * (p4 + p5) + 16777216 * (p5 + p6) + 4294967296 * (p6 + p7) + 1099511627776 * p7 := by
    rw [a1, hz2]
    clear a1 hz2
    omega
  have a3 : (z + z / 256 + (z + z / 256) / 65536) / 4294967296 = (p4 + p5 + p6 + p7) + 256 * (p5 + p6 + p7) + 65536 * (p6 + p7) + 16777216 * p7 := by
    rw [a2, a1, hz2]
    clear a2 a1 hz2
    omega
  rw [a3, a2, a1, hz2]
  clear a3 a2 a1 hz2
  omega
def tn (x : Int64) : Nat := x.toBitVec.toNat
theorem tn_lt (x : Int64) : tn x < 2 ^ 64 := x.toBitVec.isLt
theorem tn_and (x y : Int64) : tn (x &&& y) = (tn x &&& tn y) := by unfold tn; rw [Int64.toBitVec_and, BitVec.toNat_and]
theorem tn_add {x y : Int64} (h : tn x + tn y < 2 ^ 64) : tn (x + y) = tn x + tn y := by
  unfold tn at *
  rw [Int64.toBitVec_add, BitVec.toNat_add, Nat.mod_eq_of_lt h]
theorem tn_sub {x y : Int64} (h : tn y ≤ tn x) : tn (x - y) = tn x - tn y := by
  unfold tn at *
  rw [Int64.toBitVec_sub, BitVec.toNat_sub_of_le h]
theorem tn_shr (w : Int64) {j : Nat} (hj : j < 64) : tn (s_lushr w (nI j)) = tn w / 2 ^ j := by
  unfold s_lushr tn
  rw [lb_cu j hj]
  have hs : (UInt64.ofNat j).toNat = j := by rw [UInt64.toNat_ofNat']; omega
  show (w.toUInt64 >>> UInt64.ofNat j).toNat = _
  rw [UInt64.toNat_shiftRight, hs, Nat.mod_eq_of_lt hj, Nat.shiftRight_eq_div_pow]
  rfl
theorem lb_tn (x : Int64) (k : Nat) : lb x k = (tn x).testBit k := (BitVec.testBit_toNat x.toBitVec).symm
theorem lN_tn (x : Int64) : lN (tn x) = x := by
  apply Int64.toBitVec_inj.mp
  apply BitVec.eq_of_toNat_eq
  show (BitVec.ofNat 64 (tn x)).toNat = tn x
  rw [BitVec.toNat_ofNat, Nat.mod_eq_of_lt (tn_lt x)]
theorem nI_and127 (N : Nat) : nI N &&& 127 = nI (N % 128) := by
  rw [pk_and (nI N) (m := 127) 7 (by decide)]
  have : (nI N).toBitVec.toNat = N % 2 ^ 32 := BitVec.toNat_ofNat N 32
  rw [this]
  congr 1
  omega
set_option maxRecDepth 20000 in
theorem p_bits (x : Int64) (m : sM) : f_J13_bitCount_95d88 x m = some (.inl (nI (fb_ct (lb x) 64)), m) := by
  unfold f_J13_bitCount_95d88
  generalize hA1 : x - ((s_lushr x 1) &&& 6148914691236517205) = A1
  generalize hA2 : (A1 &&& 3689348814741910323) + ((s_lushr A1 2) &&& 3689348814741910323) = A2
  generalize hA3 : (A2 + (s_lushr A2 4)) &&& 1085102592571150095 = A3
  generalize hA4 : A3 + (s_lushr A3 8) = A4
  generalize hA5 : A4 + (s_lushr A4 16) = A5
  generalize hA6 : A5 + (s_lushr A5 32) = A6
  have c1 : tn 6148914691236517205 = pmk 0x55 8 := by decide
  have c2 : tn 3689348814741910323 = pmk 0x33 8 := by decide
  have c3 : tn 1085102592571150095 = pmk 0x0f 8 := by decide
  have s1 : tn (s_lushr x 1) = tn x / 2 := tn_shr x (j := 1) (by decide)
  have s2 : tn (s_lushr A1 2) = tn A1 / 4 := tn_shr A1 (j := 2) (by decide)
  have s4 : tn (s_lushr A2 4) = tn A2 / 16 := tn_shr A2 (j := 4) (by decide)
  have s8 : tn (s_lushr A3 8) = tn A3 / 256 := tn_shr A3 (j := 8) (by decide)
  have s16 : tn (s_lushr A4 16) = tn A4 / 65536 := tn_shr A4 (j := 16) (by decide)
  have s32 : tn (s_lushr A5 32) = tn A5 / 4294967296 := tn_shr A5 (j := 32) (by decide)
  have l0 := tn_lt x
  have t1 : tn A1 = pq1 8 (tn x) := by
    rw [← hA1, tn_sub, tn_and, s1, c1]; rfl
    rw [tn_and, s1]
    exact Nat.le_trans Nat.and_le_left (Nat.div_le_self _ _)
  have d1 : pmk 0x33 8 = 3689348814741910323 := by decide
  have d2 : pmk 0x0f 8 = 1085102592571150095 := by decide
  have u1 : (tn A1 &&& pmk 0x33 8) ≤ pmk 0x33 8 := Nat.and_le_right
  have u2 : (tn A1 / 4 &&& pmk 0x33 8) ≤ pmk 0x33 8 := Nat.and_le_right
  have t2 : tn A2 = pq2 8 (tn A1) ∧ tn A2 ≤ 2 * 3689348814741910323 := by
    have e : tn A2 = pq2 8 (tn A1) := by
      rw [← hA2, tn_add, tn_and, tn_and, s2, c2]; rfl
      rw [tn_and, tn_and, s2, c2]
      omega
    refine ⟨e, ?_⟩
    rw [e]
    show (tn A1 &&& pmk 0x33 8) + (tn A1 / 4 &&& pmk 0x33 8) ≤ _
    omega
  have t3 : tn A3 = pq3 8 (tn A2) ∧ tn A3 ≤ 1085102592571150095 := by
    have e : tn A3 = pq3 8 (tn A2) := by
      rw [← hA3, tn_and, tn_add, s4, c3]; rfl
      rw [s4]
      have := t2.2
      omega
    refine ⟨e, ?_⟩
    rw [e, ← d2]
    exact Nat.and_le_right
  have t4 : tn A4 = tn A3 + tn A3 / 256 := by
    rw [← hA4, tn_add, s8]
    rw [s8]
    have := t3.2
    omega
  have t5 : tn A5 = tn A4 + tn A4 / 65536 := by
    rw [← hA5, tn_add, s16]
    rw [s16]
    have := t3.2
    omega
  have t6 : tn A6 = tn A5 + tn A5 / 4294967296 := by
    rw [← hA6, tn_add, s32]
    rw [s32]
    have := t3.2
    omega
  have hf : tn A6 % 128 = psm 8 (tn x) := by
    have := pfin (tn x)
    rw [t6, t5, t4, t3.1, t2.1, t1]
    exact this
  have hr : Int64.toInt32 A6 &&& 127 = nI (fb_ct (lb x) 64) := by
    have e1 : Int64.toInt32 A6 = nI (tn A6) := by
      have := lN_i (tn A6)
      rwa [lN_tn] at this
    rw [e1, nI_and127, hf, psm_ct]
    exact congrArg nI (fb_ct_cong fun k _ => (lb_tn x k).symm)
  rw [hr]
theorem ct64_le (x : Int64) : fb_ct (lb x) 64 ≤ 64 := fb_ct_le _ _
