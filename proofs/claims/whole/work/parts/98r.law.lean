/-! PURE: each step of the law. Written by wip/whole/steps.py. -/
set_option maxRecDepth 100000 in
set_option maxHeartbeats 1000000 in
theorem g_law_0 {xs : Nat → Int32} {L I : Nat} {kk : sM → Option (sR Int32)} {m : sM} (h : R m m) (hI : I + 4 ≤ L) (hL : L < 2 ^ 31) : ∃ m', R m' m' ∧ f_law_0 xs L (nI I) kk m = kk m' := by
  unfold f_law_0
  exact stepP (FL := f_X9_format) (FX := f_X10_format) h (fun mm hmm => k_format hmm) kk
set_option maxRecDepth 100000 in
set_option maxHeartbeats 1000000 in
theorem g_law_1 {xs : Nat → Int32} {L I : Nat} {kk : sM → Option (sR Int32)} {m : sM} (h : R m m) (hI : I + 4 ≤ L) (hL : L < 2 ^ 31) : ∃ m', R m' m' ∧ f_law_1 xs L (nI I) kk m = kk m' := by
  unfold f_law_1
  exact stepT (cv := Int32.toInt64) (FL := f_L_begin) (FX := f_X10_begin) h (fun mm hmm => w_begin hmm) kk
set_option maxRecDepth 100000 in
set_option maxHeartbeats 1000000 in
theorem g_law_2 {xs : Nat → Int32} {L I : Nat} {kk : sM → Option (sR Int32)} {m : sM} (h : R m m) (hI : I + 4 ≤ L) (hL : L < 2 ^ 31) : ∃ m', R m' m' ∧ f_law_2 xs L (nI I) kk m = kk m' := by
  unfold f_law_2
  simp (disch := omega) only [aNl, ix_]
  exact stepB (FL := f_L_put (xs (I + 1)) (xs (I + 2)) (xs (I + 3))) (FX := f_X10_put (xs (I + 1)) (xs (I + 2)) (xs (I + 3))) h (fun mm hmm => w_put hmm _ _ _) kk
set_option maxRecDepth 100000 in
set_option maxHeartbeats 1000000 in
theorem g_law_3 {xs : Nat → Int32} {L I : Nat} {kk : sM → Option (sR Int32)} {m : sM} (h : R m m) (hI : I + 4 ≤ L) (hL : L < 2 ^ 31) : ∃ m', R m' m' ∧ f_law_3 xs L (nI I) kk m = kk m' := by
  unfold f_law_3
  simp (disch := omega) only [aNl, ix_]
  exact stepT (cv := Int32.toInt64) (FL := f_L_remove (xs (I + 1)) (xs (I + 2))) (FX := f_X10_remove (xs (I + 1)) (xs (I + 2))) h (fun mm hmm => w_remove hmm _ _) kk
set_option maxRecDepth 100000 in
set_option maxHeartbeats 1000000 in
theorem g_law_4 {xs : Nat → Int32} {L I : Nat} {kk : sM → Option (sR Int32)} {m : sM} (h : R m m) (hI : I + 4 ≤ L) (hL : L < 2 ^ 31) : ∃ m', R m' m' ∧ f_law_4 xs L (nI I) kk m = kk m' := by
  unfold f_law_4
  simp (disch := omega) only [aNl, ix_]
  exact stepT (cv := Int32.toInt64) (FL := f_L_get (xs (I + 1)) (xs (I + 2))) (FX := f_X10_get (xs (I + 1)) (xs (I + 2))) h (fun mm hmm => w_get hmm _ _) kk
set_option maxRecDepth 100000 in
set_option maxHeartbeats 1000000 in
theorem g_law_5 {xs : Nat → Int32} {L I : Nat} {kk : sM → Option (sR Int32)} {m : sM} (h : R m m) (hI : I + 4 ≤ L) (hL : L < 2 ^ 31) : ∃ m', R m' m' ∧ f_law_5 xs L (nI I) kk m = kk m' := by
  unfold f_law_5
  simp (disch := omega) only [aNl, ix_]
  exact stepT (cv := Int32.toInt64) (FL := f_L_changes (xs (I + 1))) (FX := f_X10_changes (xs (I + 1))) h (fun mm hmm => w_changes hmm _) kk
set_option maxRecDepth 100000 in
set_option maxHeartbeats 1000000 in
theorem g_law_6 {xs : Nat → Int32} {L I : Nat} {kk : sM → Option (sR Int32)} {m : sM} (h : R m m) (hI : I + 4 ≤ L) (hL : L < 2 ^ 31) : ∃ m', R m' m' ∧ f_law_6 xs L (nI I) kk m = kk m' := by
  unfold f_law_6
  simp (disch := omega) only [aNl, ix_]
  exact stepT (cv := Int32.toInt64) (FL := f_L_slotState (xs (I + 1))) (FX := f_X10_slotState (xs (I + 1))) h (fun mm hmm => w_slotState hmm _) kk
set_option maxRecDepth 100000 in
set_option maxHeartbeats 1000000 in
theorem g_law_7 {xs : Nat → Int32} {L I : Nat} {kk : sM → Option (sR Int32)} {m : sM} (h : R m m) (hI : I + 4 ≤ L) (hL : L < 2 ^ 31) : ∃ m', R m' m' ∧ f_law_7 xs L (nI I) kk m = kk m' := by
  unfold f_law_7
  simp (disch := omega) only [aNl, ix_]
  exact stepT (cv := Int32.toInt64) (FL := f_L_mark (xs (I + 1))) (FX := f_X10_mark (xs (I + 1))) h (fun mm hmm => w_mark hmm _) kk
set_option maxRecDepth 100000 in
set_option maxHeartbeats 1000000 in
theorem g_law_8 {xs : Nat → Int32} {L I : Nat} {kk : sM → Option (sR Int32)} {m : sM} (h : R m m) (hI : I + 4 ≤ L) (hL : L < 2 ^ 31) : ∃ m', R m' m' ∧ f_law_8 xs L (nI I) kk m = kk m' := by
  unfold f_law_8
  simp (disch := omega) only [aNl, ix_]
  exact stepT (cv := Int32.toInt64) (FL := f_L_goBack (xs (I + 1))) (FX := f_X10_goBack (xs (I + 1))) h (fun mm hmm => w_goBack hmm _) kk
set_option maxRecDepth 100000 in
set_option maxHeartbeats 1000000 in
theorem g_law_9 {xs : Nat → Int32} {L I : Nat} {kk : sM → Option (sR Int32)} {m : sM} (h : R m m) (hI : I + 4 ≤ L) (hL : L < 2 ^ 31) : ∃ m', R m' m' ∧ f_law_9 xs L (nI I) kk m = kk m' := by
  unfold f_law_9
  simp (disch := omega) only [aNl, ix_]
  exact stepT (cv := Int32.toInt64) (FL := f_L_ready (xs (I + 1))) (FX := f_X10_ready (xs (I + 1))) h (fun mm hmm => w_ready hmm _) kk
set_option maxRecDepth 100000 in
set_option maxHeartbeats 1000000 in
theorem g_law_10 {xs : Nat → Int32} {L I : Nat} {kk : sM → Option (sR Int32)} {m : sM} (h : R m m) (hI : I + 4 ≤ L) (hL : L < 2 ^ 31) : ∃ m', R m' m' ∧ f_law_10 xs L (nI I) kk m = kk m' := by
  unfold f_law_10
  simp (disch := omega) only [aNl, ix_]
  exact stepT (cv := Int32.toInt64) (FL := f_L_abandon (xs (I + 1))) (FX := f_X10_abandon (xs (I + 1))) h (fun mm hmm => w_abandon hmm _) kk
set_option maxRecDepth 100000 in
set_option maxHeartbeats 1000000 in
theorem g_law_11 {xs : Nat → Int32} {L I : Nat} {kk : sM → Option (sR Int32)} {m : sM} (h : R m m) (hI : I + 4 ≤ L) (hL : L < 2 ^ 31) : ∃ m', R m' m' ∧ f_law_11 xs L (nI I) kk m = kk m' := by
  unfold f_law_11
  simp (disch := omega) only [aNl, ix_]
  exact stepT (cv := Int32.toInt64) (FL := f_L_feed (s_i2c (xs (I + 1)))) (FX := f_X10_feed (s_i2c (xs (I + 1)))) h (fun mm hmm => w_feed hmm _) kk
set_option maxRecDepth 100000 in
set_option maxHeartbeats 1000000 in
theorem g_law_12 {xs : Nat → Int32} {L I : Nat} {kk : sM → Option (sR Int32)} {m : sM} (h : R m m) (hI : I + 4 ≤ L) (hL : L < 2 ^ 31) : ∃ m', R m' m' ∧ f_law_12 xs L (nI I) kk m = kk m' := by
  unfold f_law_12
  simp (disch := omega) only [aNl, ix_]
  exact stepT (cv := Int32.toInt64) (FL := f_L_readChanges (xs (I + 1))) (FX := f_X10_readChanges (xs (I + 1))) h (fun mm hmm => w_readChanges hmm _) kk
set_option maxRecDepth 100000 in
set_option maxHeartbeats 1000000 in
theorem g_law_13 {xs : Nat → Int32} {L I : Nat} {kk : sM → Option (sR Int32)} {m : sM} (h : R m m) (hI : I + 4 ≤ L) (hL : L < 2 ^ 31) : ∃ m', R m' m' ∧ f_law_13 xs L (nI I) kk m = kk m' := by
  unfold f_law_13
  simp (disch := omega) only [aNl, ix_]
  exact stepT (cv := Int32.toInt64) (FL := f_L_writeChanges (xs (I + 1))) (FX := f_X10_writeChanges (xs (I + 1))) h (fun mm hmm => w_writeChanges hmm _) kk
set_option maxRecDepth 100000 in
set_option maxHeartbeats 1000000 in
theorem g_law_14 {xs : Nat → Int32} {L I : Nat} {kk : sM → Option (sR Int32)} {m : sM} (h : R m m) (hI : I + 4 ≤ L) (hL : L < 2 ^ 31) : ∃ m', R m' m' ∧ f_law_14 xs L (nI I) kk m = kk m' := by
  unfold f_law_14
  exact stepT (cv := Int32.toInt64) (FL := f_L_writeRecords) (FX := f_X10_writeRecords) h (fun mm hmm => w_writeRecords hmm) kk
set_option maxRecDepth 100000 in
set_option maxHeartbeats 1000000 in
theorem g_law_15 {xs : Nat → Int32} {L I : Nat} {kk : sM → Option (sR Int32)} {m : sM} (h : R m m) (hI : I + 4 ≤ L) (hL : L < 2 ^ 31) : ∃ m', R m' m' ∧ f_law_15 xs L (nI I) kk m = kk m' := by
  unfold f_law_15
  simp (disch := omega) only [aNl, ix_]
  exact stepT (cv := Int32.toInt64) (FL := f_L_outputAt (xs (I + 1))) (FX := f_X10_outputAt (xs (I + 1))) h (fun mm hmm => w_outputAt hmm _) kk
set_option maxRecDepth 100000 in
set_option maxHeartbeats 1000000 in
theorem g_law_16 {xs : Nat → Int32} {L I : Nat} {kk : sM → Option (sR Int32)} {m : sM} (h : R m m) (hI : I + 4 ≤ L) (hL : L < 2 ^ 31) : ∃ m', R m' m' ∧ f_law_16 xs L (nI I) kk m = kk m' := by
  unfold f_law_16
  exact stepP (FL := f_X9_blocksToWrite) (FX := f_X10_blocksToWrite) h (fun mm hmm => k_blocksToWrite hmm) kk
set_option maxRecDepth 100000 in
set_option maxHeartbeats 1000000 in
theorem g_law_17 {xs : Nat → Int32} {L I : Nat} {kk : sM → Option (sR Int32)} {m : sM} (h : R m m) (hI : I + 4 ≤ L) (hL : L < 2 ^ 31) : ∃ m', R m' m' ∧ f_law_17 xs L (nI I) kk m = kk m' := by
  unfold f_law_17
  simp (disch := omega) only [aNl, ix_]
  exact stepT (cv := Int32.toInt64) (FL := f_L_commit (xs (I + 1))) (FX := f_X10_commit (xs (I + 1))) h (fun mm hmm => w_commit hmm _) kk
set_option maxRecDepth 100000 in
set_option maxHeartbeats 1000000 in
theorem g_law_18 {xs : Nat → Int32} {L I : Nat} {kk : sM → Option (sR Int32)} {m : sM} (h : R m m) (hI : I + 4 ≤ L) (hL : L < 2 ^ 31) : ∃ m', R m' m' ∧ f_law_18 xs L (nI I) kk m = kk m' := by
  unfold f_law_18
  exact stepT (cv := Int32.toInt64) (FL := f_L_reopen) (FX := f_X10_reopen) h (fun mm hmm => w_reopen hmm) kk
set_option maxRecDepth 100000 in
set_option maxHeartbeats 1000000 in
theorem g_law_19 {xs : Nat → Int32} {L I : Nat} {kk : sM → Option (sR Int32)} {m : sM} (h : R m m) (hI : I + 4 ≤ L) (hL : L < 2 ^ 31) : ∃ m', R m' m' ∧ f_law_19 xs L (nI I) kk m = kk m' := by
  unfold f_law_19
  exact stepP (FL := f_X9_isOpen) (FX := f_X10_isOpen) h (fun mm hmm => k_isOpen hmm) kk
set_option maxRecDepth 100000 in
set_option maxHeartbeats 1000000 in
theorem g_law_20 {xs : Nat → Int32} {L I : Nat} {kk : sM → Option (sR Int32)} {m : sM} (h : R m m) (hI : I + 4 ≤ L) (hL : L < 2 ^ 31) : ∃ m', R m' m' ∧ f_law_20 xs L (nI I) kk m = kk m' := by
  unfold f_law_20
  exact stepT (cv := Int32.toInt64) (FL := f_L_commitNumber) (FX := f_X10_commitNumber) h (fun mm hmm => w_commitNumber hmm) kk
set_option maxRecDepth 100000 in
set_option maxHeartbeats 1000000 in
theorem g_law_21 {xs : Nat → Int32} {L I : Nat} {kk : sM → Option (sR Int32)} {m : sM} (h : R m m) (hI : I + 4 ≤ L) (hL : L < 2 ^ 31) : ∃ m', R m' m' ∧ f_law_21 xs L (nI I) kk m = kk m' := by
  unfold f_law_21
  exact stepT (cv := Int32.toInt64) (FL := f_L_size) (FX := f_X10_size) h (fun mm hmm => w_size hmm) kk
set_option maxRecDepth 100000 in
set_option maxHeartbeats 1000000 in
theorem g_law_22 {xs : Nat → Int32} {L I : Nat} {kk : sM → Option (sR Int32)} {m : sM} (h : R m m) (hI : I + 4 ≤ L) (hL : L < 2 ^ 31) : ∃ m', R m' m' ∧ f_law_22 xs L (nI I) kk m = kk m' := by
  unfold f_law_22
  simp (disch := omega) only [aNl, ix_]
  exact stepT (cv := Int32.toInt64) (FL := f_L_value (xs (I + 1))) (FX := f_X10_value (xs (I + 1))) h (fun mm hmm => w_value hmm _) kk
set_option maxRecDepth 100000 in
set_option maxHeartbeats 1000000 in
theorem g_law_23 {xs : Nat → Int32} {L I : Nat} {kk : sM → Option (sR Int32)} {m : sM} (h : R m m) (hI : I + 4 ≤ L) (hL : L < 2 ^ 31) : ∃ m', R m' m' ∧ f_law_23 xs L (nI I) kk m = kk m' := by
  unfold f_law_23
  simp (disch := omega) only [aNl, ix_]
  exact stepT (cv := Int32.toInt64) (FL := f_L_keyAt (xs (I + 1))) (FX := f_X10_keyAt (xs (I + 1))) h (fun mm hmm => w_keyAt hmm _) kk
set_option maxRecDepth 100000 in
set_option maxHeartbeats 1000000 in
theorem g_law_24 {xs : Nat → Int32} {L I : Nat} {kk : sM → Option (sR Int32)} {m : sM} (h : R m m) (hI : I + 4 ≤ L) (hL : L < 2 ^ 31) : ∃ m', R m' m' ∧ f_law_24 xs L (nI I) kk m = kk m' := by
  unfold f_law_24
  simp (disch := omega) only [aNl, ix_]
  exact stepT (cv := Int32.toInt64) (FL := f_L_sum (xs (I + 1)) (xs (I + 2))) (FX := f_X10_sum (xs (I + 1)) (xs (I + 2))) h (fun mm hmm => w_sum hmm _ _) kk
set_option maxRecDepth 100000 in
set_option maxHeartbeats 1000000 in
theorem g_law_25 {xs : Nat → Int32} {L I : Nat} {kk : sM → Option (sR Int32)} {m : sM} (h : R m m) (hI : I + 4 ≤ L) (hL : L < 2 ^ 31) : ∃ m', R m' m' ∧ f_law_25 xs L (nI I) kk m = kk m' := by
  unfold f_law_25
  simp (disch := omega) only [aNl, ix_]
  exact stepT (cv := Int32.toInt64) (FL := f_L_pageBlock (xs (I + 1))) (FX := f_X10_pageBlock (xs (I + 1))) h (fun mm hmm => w_pageBlock hmm _) kk
set_option maxRecDepth 100000 in
set_option maxHeartbeats 1000000 in
theorem g_law_26 {xs : Nat → Int32} {L I : Nat} {kk : sM → Option (sR Int32)} {m : sM} (h : R m m) (hI : I + 4 ≤ L) (hL : L < 2 ^ 31) : ∃ m', R m' m' ∧ f_law_26 xs L (nI I) kk m = kk m' := by
  unfold f_law_26
  exact stepT (cv := Int32.toInt64) (FL := f_L_freeCount) (FX := f_X10_freeCount) h (fun mm hmm => w_freeCount hmm) kk
set_option maxRecDepth 100000 in
set_option maxHeartbeats 1000000 in
theorem g_law_27 {xs : Nat → Int32} {L I : Nat} {kk : sM → Option (sR Int32)} {m : sM} (h : R m m) (hI : I + 4 ≤ L) (hL : L < 2 ^ 31) : ∃ m', R m' m' ∧ f_law_27 xs L (nI I) kk m = kk m' := by
  unfold f_law_27
  simp (disch := omega) only [aNl, ix_]
  exact stepT (cv := Int32.toInt64) (FL := f_L_freeBlock (xs (I + 1))) (FX := f_X10_freeBlock (xs (I + 1))) h (fun mm hmm => w_freeBlock hmm _) kk
set_option maxRecDepth 100000 in
set_option maxHeartbeats 1000000 in
theorem g_law_28 {xs : Nat → Int32} {L I : Nat} {kk : sM → Option (sR Int32)} {m : sM} (h : R m m) (hI : I + 4 ≤ L) (hL : L < 2 ^ 31) : ∃ m', R m' m' ∧ f_law_28 xs L (nI I) kk m = kk m' := by
  unfold f_law_28
  exact stepT (cv := Int32.toInt64) (FL := f_L_wrongBlock) (FX := f_X10_wrongBlock) h (fun mm hmm => w_wrongBlock hmm) kk
set_option maxRecDepth 100000 in
set_option maxHeartbeats 1000000 in
theorem g_law_29 {xs : Nat → Int32} {L I : Nat} {kk : sM → Option (sR Int32)} {m : sM} (h : R m m) (hI : I + 4 ≤ L) (hL : L < 2 ^ 31) : ∃ m', R m' m' ∧ f_law_29 xs L (nI I) kk m = kk m' := by
  unfold f_law_29
  exact stepP (FL := f_X9_logSize) (FX := f_X10_logSize) h (fun mm hmm => k_logSize hmm) kk
set_option maxRecDepth 100000 in
set_option maxHeartbeats 1000000 in
theorem g_law_30 {xs : Nat → Int32} {L I : Nat} {kk : sM → Option (sR Int32)} {m : sM} (h : R m m) (hI : I + 4 ≤ L) (hL : L < 2 ^ 31) : ∃ m', R m' m' ∧ f_law_30 xs L (nI I) kk m = kk m' := by
  unfold f_law_30
  simp (disch := omega) only [aNl, ix_]
  exact stepT (cv := Int32.toInt64) (FL := f_L_logged (xs (I + 1)) (xs (I + 2))) (FX := f_X10_logged (xs (I + 1)) (xs (I + 2))) h (fun mm hmm => w_logged hmm _ _) kk
set_option maxRecDepth 100000 in
set_option maxHeartbeats 1000000 in
theorem g_law_31 {xs : Nat → Int32} {L I : Nat} {kk : sM → Option (sR Int32)} {m : sM} (h : R m m) (hI : I + 4 ≤ L) (hL : L < 2 ^ 31) : ∃ m', R m' m' ∧ f_law_31 xs L (nI I) kk m = kk m' := by
  unfold f_law_31
  simp (disch := omega) only [aNl, ix_]
  exact stepT (cv := Int32.toInt64) (FL := f_L_statistic (xs (I + 1))) (FX := f_X10_statistic (xs (I + 1))) h (fun mm hmm => w_statistic hmm _) kk
set_option maxRecDepth 100000 in
set_option maxHeartbeats 1000000 in
theorem g_law_32 {xs : Nat → Int32} {L I : Nat} {kk : sM → Option (sR Int32)} {m : sM} (h : R m m) (hI : I + 4 ≤ L) (hL : L < 2 ^ 31) : ∃ m', R m' m' ∧ f_law_32 xs L (nI I) kk m = kk m' := by
  unfold f_law_32
  exact stepT (cv := Int32.toInt64) (FL := f_L_pin) (FX := f_X10_pin) h (fun mm hmm => w_pin hmm) kk
set_option maxRecDepth 100000 in
set_option maxHeartbeats 1000000 in
theorem g_law_33 {xs : Nat → Int32} {L I : Nat} {kk : sM → Option (sR Int32)} {m : sM} (h : R m m) (hI : I + 4 ≤ L) (hL : L < 2 ^ 31) : ∃ m', R m' m' ∧ f_law_33 xs L (nI I) kk m = kk m' := by
  unfold f_law_33
  simp (disch := omega) only [aNl, ix_]
  exact stepT (cv := Int32.toInt64) (FL := f_L_pinnedValue (xs (I + 1)) (xs (I + 2))) (FX := f_X10_pinnedValue (xs (I + 1)) (xs (I + 2))) h (fun mm hmm => w_pinnedValue hmm _ _) kk
set_option maxRecDepth 100000 in
set_option maxHeartbeats 1000000 in
theorem g_law_34 {xs : Nat → Int32} {L I : Nat} {kk : sM → Option (sR Int32)} {m : sM} (h : R m m) (hI : I + 4 ≤ L) (hL : L < 2 ^ 31) : ∃ m', R m' m' ∧ f_law_34 xs L (nI I) kk m = kk m' := by
  unfold f_law_34
  simp (disch := omega) only [aNl, ix_]
  exact stepT (cv := Int32.toInt64) (FL := f_L_pinnedCommit (xs (I + 1))) (FX := f_X10_pinnedCommit (xs (I + 1))) h (fun mm hmm => w_pinnedCommit hmm _) kk
set_option maxRecDepth 100000 in
set_option maxHeartbeats 1000000 in
theorem g_law_35 {xs : Nat → Int32} {L I : Nat} {kk : sM → Option (sR Int32)} {m : sM} (h : R m m) (hI : I + 4 ≤ L) (hL : L < 2 ^ 31) : ∃ m', R m' m' ∧ f_law_35 xs L (nI I) kk m = kk m' := by
  unfold f_law_35
  simp (disch := omega) only [aNl, ix_]
  exact stepT (cv := Int32.toInt64) (FL := f_L_unpin (xs (I + 1))) (FX := f_X10_unpin (xs (I + 1))) h (fun mm hmm => w_unpin hmm _) kk
set_option maxRecDepth 100000 in
set_option maxHeartbeats 1000000 in
theorem g_law_36 {xs : Nat → Int32} {L I : Nat} {kk : sM → Option (sR Int32)} {m : sM} (h : R m m) (hI : I + 4 ≤ L) (hL : L < 2 ^ 31) : ∃ m', R m' m' ∧ f_law_36 xs L (nI I) kk m = kk m' := by
  unfold f_law_36
  simp (disch := omega) only [aNl, ix_]
  exact stepT (cv := Int32.toInt64) (FL := f_L_differences (xs (I + 1))) (FX := f_X10_differences (xs (I + 1))) h (fun mm hmm => w_differences hmm _) kk
set_option maxRecDepth 100000 in
set_option maxHeartbeats 1000000 in
theorem g_law_37 {xs : Nat → Int32} {L I : Nat} {kk : sM → Option (sR Int32)} {m : sM} (h : R m m) (hI : I + 4 ≤ L) (hL : L < 2 ^ 31) : ∃ m', R m' m' ∧ f_law_37 xs L (nI I) kk m = kk m' := by
  unfold f_law_37
  simp (disch := omega) only [aNl, ix_]
  exact stepT (cv := Int32.toInt64) (FL := f_L_differentKey (xs (I + 1)) (xs (I + 2))) (FX := f_X10_differentKey (xs (I + 1)) (xs (I + 2))) h (fun mm hmm => w_differentKey hmm _ _) kk
set_option maxRecDepth 100000 in
set_option maxHeartbeats 1000000 in
theorem g_law_38 {xs : Nat → Int32} {L I : Nat} {kk : sM → Option (sR Int32)} {m : sM} (h : R m m) (hI : I + 4 ≤ L) (hL : L < 2 ^ 31) : ∃ m', R m' m' ∧ f_law_38 xs L (nI I) kk m = kk m' := by
  unfold f_law_38
  simp (disch := omega) only [aNl, ix_]
  exact stepT (cv := Int32.toInt64) (FL := f_L_cell (xs (I + 1)) (xs (I + 2))) (FX := f_X10_cell (xs (I + 1)) (xs (I + 2))) h (fun mm hmm => w_cell hmm _ _) kk
set_option maxRecDepth 100000 in
set_option maxHeartbeats 1000000 in
theorem g_law_39 {xs : Nat → Int32} {L I : Nat} {kk : sM → Option (sR Int32)} {m : sM} (h : R m m) (hI : I + 4 ≤ L) (hL : L < 2 ^ 31) : ∃ m', R m' m' ∧ f_law_39 xs L (nI I) kk m = kk m' := by
  unfold f_law_39
  simp (disch := omega) only [aNl, ix_]
  exact stepT (cv := Int32.toInt64) (FL := f_L_damage (xs (I + 1)) (xs (I + 2)) (xs (I + 3))) (FX := f_X10_damage (xs (I + 1)) (xs (I + 2)) (xs (I + 3))) h (fun mm hmm => w_damage hmm _ _ _) kk
set_option maxRecDepth 100000 in
set_option maxHeartbeats 1000000 in
theorem g_law_40 {xs : Nat → Int32} {L I : Nat} {kk : sM → Option (sR Int32)} {m : sM} (h : R m m) (hI : I + 4 ≤ L) (hL : L < 2 ^ 31) : ∃ m', R m' m' ∧ f_law_40 xs L (nI I) kk m = kk m' := by
  unfold f_law_40
  simp (disch := omega) only [aNl, ix_]
  exact stepT (cv := Int32.toInt64) (FL := f_L_checksum (xs (I + 1))) (FX := f_X10_checksum (xs (I + 1))) h (fun mm hmm => w_checksum hmm _) kk
set_option maxRecDepth 100000 in
set_option maxHeartbeats 1000000 in
theorem g_law_41 {xs : Nat → Int32} {L I : Nat} {kk : sM → Option (sR Int32)} {m : sM} (h : R m m) (hI : I + 4 ≤ L) (hL : L < 2 ^ 31) : ∃ m', R m' m' ∧ f_law_41 xs L (nI I) kk m = kk m' := by
  unfold f_law_41
  simp (disch := omega) only [aNl, ix_]
  exact stepB (FL := f_L_isValid (xs (I + 1))) (FX := f_X10_isValid (xs (I + 1))) h (fun mm hmm => w_isValid hmm _) kk
set_option maxRecDepth 100000 in
set_option maxHeartbeats 1000000 in
theorem g_law_42 {xs : Nat → Int32} {L I : Nat} {kk : sM → Option (sR Int32)} {m : sM} (h : R m m) (hI : I + 4 ≤ L) (hL : L < 2 ^ 31) : ∃ m', R m' m' ∧ f_law_42 xs L (nI I) kk m = kk m' := by
  unfold f_law_42
  exact stepP (FL := f_X9_salvage) (FX := f_X10_salvage) h (fun mm hmm => k_salvage hmm) kk
set_option maxRecDepth 100000 in
set_option maxHeartbeats 1000000 in
theorem g_law_43 {xs : Nat → Int32} {L I : Nat} {kk : sM → Option (sR Int32)} {m : sM} (h : R m m) (hI : I + 4 ≤ L) (hL : L < 2 ^ 31) : ∃ m', R m' m' ∧ f_law_43 xs L (nI I) kk m = kk m' := by
  unfold f_law_43
  simp (disch := omega) only [aNl, ix_]
  exact stepT (cv := Int32.toInt64) (FL := f_L_salvaged (xs (I + 1)) (xs (I + 2))) (FX := f_X10_salvaged (xs (I + 1)) (xs (I + 2))) h (fun mm hmm => w_salvaged hmm _ _) kk
set_option maxRecDepth 100000 in
set_option maxHeartbeats 1000000 in
theorem g_law_44 {xs : Nat → Int32} {L I : Nat} {kk : sM → Option (sR Int32)} {m : sM} (h : R m m) (hI : I + 4 ≤ L) (hL : L < 2 ^ 31) : ∃ m', R m' m' ∧ f_law_44 xs L (nI I) kk m = kk m' := by
  unfold f_law_44
  simp (disch := omega) only [aNl, ix_]
  exact stepT (cv := Int32.toInt64) (FL := f_L_adopt (xs (I + 1))) (FX := f_X10_adopt (xs (I + 1))) h (fun mm hmm => w_adopt hmm _) kk
set_option maxRecDepth 100000 in
set_option maxHeartbeats 1000000 in
theorem g_sw {xs : Nat → Int32} {L I : Nat} {kk : sM → Option (sR Int32)} {m : sM} (z : Int32) (h : R m m) (hI : I + 4 ≤ L) (hL : L < 2 ^ 31) : ∃ m', R m' m' ∧ f_law_sw xs L z (nI I) kk m = kk m' := by
  unfold f_law_sw
  by_cases q : z = 0
  · rw [if_pos q]; exact g_law_0 h hI hL
  rw [if_neg q]; clear q
  by_cases q : z = 1
  · rw [if_pos q]; exact g_law_1 h hI hL
  rw [if_neg q]; clear q
  by_cases q : z = 2
  · rw [if_pos q]; exact g_law_2 h hI hL
  rw [if_neg q]; clear q
  by_cases q : z = 3
  · rw [if_pos q]; exact g_law_3 h hI hL
  rw [if_neg q]; clear q
  by_cases q : z = 4
  · rw [if_pos q]; exact g_law_4 h hI hL
  rw [if_neg q]; clear q
  by_cases q : z = 5
  · rw [if_pos q]; exact g_law_5 h hI hL
  rw [if_neg q]; clear q
  by_cases q : z = 6
  · rw [if_pos q]; exact g_law_6 h hI hL
  rw [if_neg q]; clear q
  by_cases q : z = 7
  · rw [if_pos q]; exact g_law_7 h hI hL
  rw [if_neg q]; clear q
  by_cases q : z = 8
  · rw [if_pos q]; exact g_law_8 h hI hL
  rw [if_neg q]; clear q
  by_cases q : z = 9
  · rw [if_pos q]; exact g_law_9 h hI hL
  rw [if_neg q]; clear q
  by_cases q : z = 10
  · rw [if_pos q]; exact g_law_10 h hI hL
  rw [if_neg q]; clear q
  by_cases q : z = 11
  · rw [if_pos q]; exact g_law_11 h hI hL
  rw [if_neg q]; clear q
  by_cases q : z = 12
  · rw [if_pos q]; exact g_law_12 h hI hL
  rw [if_neg q]; clear q
  by_cases q : z = 13
  · rw [if_pos q]; exact g_law_13 h hI hL
  rw [if_neg q]; clear q
  by_cases q : z = 14
  · rw [if_pos q]; exact g_law_14 h hI hL
  rw [if_neg q]; clear q
  by_cases q : z = 15
  · rw [if_pos q]; exact g_law_15 h hI hL
  rw [if_neg q]; clear q
  by_cases q : z = 16
  · rw [if_pos q]; exact g_law_16 h hI hL
  rw [if_neg q]; clear q
  by_cases q : z = 17
  · rw [if_pos q]; exact g_law_17 h hI hL
  rw [if_neg q]; clear q
  by_cases q : z = 18
  · rw [if_pos q]; exact g_law_18 h hI hL
  rw [if_neg q]; clear q
  by_cases q : z = 19
  · rw [if_pos q]; exact g_law_19 h hI hL
  rw [if_neg q]; clear q
  by_cases q : z = 20
  · rw [if_pos q]; exact g_law_20 h hI hL
  rw [if_neg q]; clear q
  by_cases q : z = 21
  · rw [if_pos q]; exact g_law_21 h hI hL
  rw [if_neg q]; clear q
  by_cases q : z = 22
  · rw [if_pos q]; exact g_law_22 h hI hL
  rw [if_neg q]; clear q
  by_cases q : z = 23
  · rw [if_pos q]; exact g_law_23 h hI hL
  rw [if_neg q]; clear q
  by_cases q : z = 24
  · rw [if_pos q]; exact g_law_24 h hI hL
  rw [if_neg q]; clear q
  by_cases q : z = 25
  · rw [if_pos q]; exact g_law_25 h hI hL
  rw [if_neg q]; clear q
  by_cases q : z = 26
  · rw [if_pos q]; exact g_law_26 h hI hL
  rw [if_neg q]; clear q
  by_cases q : z = 27
  · rw [if_pos q]; exact g_law_27 h hI hL
  rw [if_neg q]; clear q
  by_cases q : z = 28
  · rw [if_pos q]; exact g_law_28 h hI hL
  rw [if_neg q]; clear q
  by_cases q : z = 29
  · rw [if_pos q]; exact g_law_29 h hI hL
  rw [if_neg q]; clear q
  by_cases q : z = 30
  · rw [if_pos q]; exact g_law_30 h hI hL
  rw [if_neg q]; clear q
  by_cases q : z = 31
  · rw [if_pos q]; exact g_law_31 h hI hL
  rw [if_neg q]; clear q
  by_cases q : z = 32
  · rw [if_pos q]; exact g_law_32 h hI hL
  rw [if_neg q]; clear q
  by_cases q : z = 33
  · rw [if_pos q]; exact g_law_33 h hI hL
  rw [if_neg q]; clear q
  by_cases q : z = 34
  · rw [if_pos q]; exact g_law_34 h hI hL
  rw [if_neg q]; clear q
  by_cases q : z = 35
  · rw [if_pos q]; exact g_law_35 h hI hL
  rw [if_neg q]; clear q
  by_cases q : z = 36
  · rw [if_pos q]; exact g_law_36 h hI hL
  rw [if_neg q]; clear q
  by_cases q : z = 37
  · rw [if_pos q]; exact g_law_37 h hI hL
  rw [if_neg q]; clear q
  by_cases q : z = 38
  · rw [if_pos q]; exact g_law_38 h hI hL
  rw [if_neg q]; clear q
  by_cases q : z = 39
  · rw [if_pos q]; exact g_law_39 h hI hL
  rw [if_neg q]; clear q
  by_cases q : z = 40
  · rw [if_pos q]; exact g_law_40 h hI hL
  rw [if_neg q]; clear q
  by_cases q : z = 41
  · rw [if_pos q]; exact g_law_41 h hI hL
  rw [if_neg q]; clear q
  by_cases q : z = 42
  · rw [if_pos q]; exact g_law_42 h hI hL
  rw [if_neg q]; clear q
  by_cases q : z = 43
  · rw [if_pos q]; exact g_law_43 h hI hL
  rw [if_neg q]; clear q
  by_cases q : z = 44
  · rw [if_pos q]; exact g_law_44 h hI hL
  rw [if_neg q]; clear q
  exact ⟨m, h, rfl⟩
set_option maxRecDepth 100000 in
set_option maxHeartbeats 1000000 in
theorem g_stop {L I : Nat} (hL : L < 2 ^ 31) (hI : I < 2 ^ 31) : (nI L - 4 < nI I) ↔ L < I + 4 := by
  rw [Int32.lt_iff_toInt_lt, Int32.toInt_sub, nI_toInt hL, nI_toInt hI]
  have e4 : (4 : Int32).toInt = 4 := by decide
  rw [e4, Int.bmod_eq_of_le (by omega) (by omega)]
  omega
set_option maxRecDepth 100000 in
set_option maxHeartbeats 1000000 in
theorem g_L {xs : Nat → Int32} {L : Nat} (hL : L + 4 < 2 ^ 31) : ∀ (n I : Nat) (m : sM), R m m → I < L + 4 → L + 4 ≤ I + 4 * n → ∃ m', f_law_L xs L n (nI I) m = some (.inl 1, m') := by
  intro n
  induction n with
  | zero => intro I m _ h1 h2; omega
  | succ n ih =>
    intro I m h h1 h2
    rw [f_law_L]
    by_cases q : L < I + 4
    · rw [if_pos ((g_stop (by omega) (by omega)).mpr q)]; exact ⟨m, rfl⟩
    · rw [if_neg (fun w => q ((g_stop (by omega) (by omega)).mp w)), ix_ _ (by omega) (by omega)]
      obtain ⟨m', hR, e⟩ := g_sw (xs := xs) (L := L) (I := I) (kk := fun m' => f_law_L xs L n (nI I + 4) m') (m := m) (xs I &&& 63) h (by omega) (by omega)
      rw [e]
      have e4 : nI I + 4 = nI (I + 4) := nI_add I 4
      rw [e4]
      exact ih (I + 4) m' hR (by omega) (by omega)
