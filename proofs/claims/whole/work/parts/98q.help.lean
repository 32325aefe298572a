/-! PURE: the helpers of the law and its steps. Written by wip/whole/steps.py. -/
set_option maxRecDepth 100000 in
set_option maxHeartbeats 1000000 in
theorem w_begin {mc mm : sM} (h : R mc mm) : LAg Int32.toInt64 (f_L_begin mc) (f_X10_begin mm) := by
  unfold f_L_begin
  refine LAg_of (k_begin h) (fun v mc => ixl _ (by decide) (by decide)) (by decide) (fun c E mc hc hE => ?_)
  obtain rfl | rfl | rfl | rfl : c = 0 ∨ c = 1 ∨ c = 2 ∨ c = 3 := by omega
  · injection hE with hE; subst hE; rw [if_pos rfl]; rfl
  · cases hE
  · cases hE
  · cases hE
set_option maxRecDepth 100000 in
set_option maxHeartbeats 1000000 in
theorem w_put {mc mm : sM} (h : R mc mm) (p1 p2 p3 : Int32) : LAg cvB (f_L_put p1 p2 p3 mc) (f_X10_put p1 p2 p3 mm) := by
  unfold f_L_put
  refine LAg_of (k_put h p1 p2 p3) (fun v mc => by unfold cvB; rw [jn_]; by_cases q : v = 0 <;> simp only [q, if_true, if_false] <;> exact (ixl _ (by decide) (by decide))) (by decide) (fun c E mc hc hE => ?_)
  obtain rfl | rfl | rfl | rfl : c = 0 ∨ c = 1 ∨ c = 2 ∨ c = 3 := by omega
  · injection hE with hE; subst hE; rw [if_pos rfl]; rfl
  · injection hE with hE; subst hE; rw [if_neg (by decide), if_pos rfl]; rfl
  · injection hE with hE; subst hE; rw [if_neg (by decide), if_neg (by decide), if_pos rfl]; rfl
  · cases hE
set_option maxRecDepth 100000 in
set_option maxHeartbeats 1000000 in
theorem w_remove {mc mm : sM} (h : R mc mm) (p1 p2 : Int32) : LAg Int32.toInt64 (f_L_remove p1 p2 mc) (f_X10_remove p1 p2 mm) := by
  unfold f_L_remove
  refine LAg_of (k_remove h p1 p2) (fun v mc => ixl _ (by decide) (by decide)) (by decide) (fun c E mc hc hE => ?_)
  obtain rfl | rfl | rfl | rfl : c = 0 ∨ c = 1 ∨ c = 2 ∨ c = 3 := by omega
  · injection hE with hE; subst hE; rw [if_pos rfl]; rfl
  · injection hE with hE; subst hE; rw [if_neg (by decide), if_pos rfl]; rfl
  · injection hE with hE; subst hE; rw [if_neg (by decide), if_neg (by decide), if_pos rfl]; rfl
  · injection hE with hE; subst hE; rw [if_neg (by decide), if_neg (by decide), if_neg (by decide), if_pos rfl]; rfl
set_option maxRecDepth 100000 in
set_option maxHeartbeats 1000000 in
theorem w_get {mc mm : sM} (h : R mc mm) (p1 p2 : Int32) : LAg Int32.toInt64 (f_L_get p1 p2 mc) (f_X10_get p1 p2 mm) := by
  unfold f_L_get
  refine LAg_of (k_get h p1 p2) (fun v mc => ixl _ (by decide) (by decide)) (by decide) (fun c E mc hc hE => ?_)
  obtain rfl | rfl | rfl | rfl : c = 0 ∨ c = 1 ∨ c = 2 ∨ c = 3 := by omega
  · injection hE with hE; subst hE; rw [if_pos rfl]; rfl
  · injection hE with hE; subst hE; rw [if_neg (by decide), if_pos rfl]; rfl
  · injection hE with hE; subst hE; rw [if_neg (by decide), if_neg (by decide), if_pos rfl]; rfl
  · injection hE with hE; subst hE; rw [if_neg (by decide), if_neg (by decide), if_neg (by decide), if_pos rfl]; rfl
set_option maxRecDepth 100000 in
set_option maxHeartbeats 1000000 in
theorem w_changes {mc mm : sM} (h : R mc mm) (p1 : Int32) : LAg Int32.toInt64 (f_L_changes p1 mc) (f_X10_changes p1 mm) := by
  unfold f_L_changes
  refine LAg_of (k_changes h p1) (fun v mc => ixl _ (by decide) (by decide)) (by decide) (fun c E mc hc hE => ?_)
  obtain rfl | rfl | rfl | rfl : c = 0 ∨ c = 1 ∨ c = 2 ∨ c = 3 := by omega
  · injection hE with hE; subst hE; rw [if_pos rfl]; rfl
  · cases hE
  · cases hE
  · cases hE
set_option maxRecDepth 100000 in
set_option maxHeartbeats 1000000 in
theorem w_slotState {mc mm : sM} (h : R mc mm) (p1 : Int32) : LAg Int32.toInt64 (f_L_slotState p1 mc) (f_X10_slotState p1 mm) := by
  unfold f_L_slotState
  refine LAg_of (k_slotState h p1) (fun v mc => ixl _ (by decide) (by decide)) (by decide) (fun c E mc hc hE => ?_)
  obtain rfl | rfl | rfl | rfl : c = 0 ∨ c = 1 ∨ c = 2 ∨ c = 3 := by omega
  · injection hE with hE; subst hE; rw [if_pos rfl]; rfl
  · cases hE
  · cases hE
  · cases hE
set_option maxRecDepth 100000 in
set_option maxHeartbeats 1000000 in
theorem w_mark {mc mm : sM} (h : R mc mm) (p1 : Int32) : LAg Int32.toInt64 (f_L_mark p1 mc) (f_X10_mark p1 mm) := by
  unfold f_L_mark
  refine LAg_of (k_mark h p1) (fun v mc => ixl _ (by decide) (by decide)) (by decide) (fun c E mc hc hE => ?_)
  obtain rfl | rfl | rfl | rfl : c = 0 ∨ c = 1 ∨ c = 2 ∨ c = 3 := by omega
  · injection hE with hE; subst hE; rw [if_pos rfl]; rfl
  · injection hE with hE; subst hE; rw [if_neg (by decide), if_pos rfl]; rfl
  · cases hE
  · cases hE
set_option maxRecDepth 100000 in
set_option maxHeartbeats 1000000 in
theorem w_goBack {mc mm : sM} (h : R mc mm) (p1 : Int32) : LAg Int32.toInt64 (f_L_goBack p1 mc) (f_X10_goBack p1 mm) := by
  unfold f_L_goBack
  refine LAg_of (k_goBack h p1) (fun v mc => ixl _ (by decide) (by decide)) (by decide) (fun c E mc hc hE => ?_)
  obtain rfl | rfl | rfl | rfl : c = 0 ∨ c = 1 ∨ c = 2 ∨ c = 3 := by omega
  · injection hE with hE; subst hE; rw [if_pos rfl]; rfl
  · injection hE with hE; subst hE; rw [if_neg (by decide), if_pos rfl]; rfl
  · injection hE with hE; subst hE; rw [if_neg (by decide), if_neg (by decide), if_pos rfl]; rfl
  · cases hE
set_option maxRecDepth 100000 in
set_option maxHeartbeats 1000000 in
theorem w_ready {mc mm : sM} (h : R mc mm) (p1 : Int32) : LAg Int32.toInt64 (f_L_ready p1 mc) (f_X10_ready p1 mm) := by
  unfold f_L_ready
  refine LAg_of (k_ready h p1) (fun v mc => ixl _ (by decide) (by decide)) (by decide) (fun c E mc hc hE => ?_)
  obtain rfl | rfl | rfl | rfl : c = 0 ∨ c = 1 ∨ c = 2 ∨ c = 3 := by omega
  · injection hE with hE; subst hE; rw [if_pos rfl]; rfl
  · injection hE with hE; subst hE; rw [if_neg (by decide), if_pos rfl]; rfl
  · cases hE
  · cases hE
set_option maxRecDepth 100000 in
set_option maxHeartbeats 1000000 in
theorem w_abandon {mc mm : sM} (h : R mc mm) (p1 : Int32) : LAg Int32.toInt64 (f_L_abandon p1 mc) (f_X10_abandon p1 mm) := by
  unfold f_L_abandon
  refine LAg_of (k_abandon h p1) (fun v mc => ixl _ (by decide) (by decide)) (by decide) (fun c E mc hc hE => ?_)
  obtain rfl | rfl | rfl | rfl : c = 0 ∨ c = 1 ∨ c = 2 ∨ c = 3 := by omega
  · injection hE with hE; subst hE; rw [if_pos rfl]; rfl
  · injection hE with hE; subst hE; rw [if_neg (by decide), if_pos rfl]; rfl
  · cases hE
  · cases hE
set_option maxRecDepth 100000 in
set_option maxHeartbeats 1000000 in
theorem w_feed {mc mm : sM} (h : R mc mm) (p1 : Int32) : LAg Int32.toInt64 (f_L_feed p1 mc) (f_X10_feed p1 mm) := by
  unfold f_L_feed
  refine LAg_of (k_feed h p1) (fun v mc => ixl _ (by decide) (by decide)) (by decide) (fun c E mc hc hE => ?_)
  obtain rfl | rfl | rfl | rfl : c = 0 ∨ c = 1 ∨ c = 2 ∨ c = 3 := by omega
  · injection hE with hE; subst hE; rw [if_pos rfl]; rfl
  · cases hE
  · cases hE
  · cases hE
set_option maxRecDepth 100000 in
set_option maxHeartbeats 1000000 in
theorem w_readChanges {mc mm : sM} (h : R mc mm) (p1 : Int32) : LAg Int32.toInt64 (f_L_readChanges p1 mc) (f_X10_readChanges p1 mm) := by
  unfold f_L_readChanges
  refine LAg_of (k_readChanges h p1) (fun v mc => ixl _ (by decide) (by decide)) (by decide) (fun c E mc hc hE => ?_)
  obtain rfl | rfl | rfl | rfl : c = 0 ∨ c = 1 ∨ c = 2 ∨ c = 3 := by omega
  · injection hE with hE; subst hE; rw [if_pos rfl]; rfl
  · injection hE with hE; subst hE; rw [if_neg (by decide), if_pos rfl]; rfl
  · cases hE
  · cases hE
set_option maxRecDepth 100000 in
set_option maxHeartbeats 1000000 in
theorem w_writeChanges {mc mm : sM} (h : R mc mm) (p1 : Int32) : LAg Int32.toInt64 (f_L_writeChanges p1 mc) (f_X10_writeChanges p1 mm) := by
  unfold f_L_writeChanges
  refine LAg_of (k_writeChanges h p1) (fun v mc => ixl _ (by decide) (by decide)) (by decide) (fun c E mc hc hE => ?_)
  obtain rfl | rfl | rfl | rfl : c = 0 ∨ c = 1 ∨ c = 2 ∨ c = 3 := by omega
  · injection hE with hE; subst hE; rw [if_pos rfl]; rfl
  · injection hE with hE; subst hE; rw [if_neg (by decide), if_pos rfl]; rfl
  · cases hE
  · cases hE
set_option maxRecDepth 100000 in
set_option maxHeartbeats 1000000 in
theorem w_writeRecords {mc mm : sM} (h : R mc mm) : LAg Int32.toInt64 (f_L_writeRecords mc) (f_X10_writeRecords mm) := by
  unfold f_L_writeRecords
  refine LAg_of (k_writeRecords h) (fun v mc => ixl _ (by decide) (by decide)) (by decide) (fun c E mc hc hE => ?_)
  obtain rfl | rfl | rfl | rfl : c = 0 ∨ c = 1 ∨ c = 2 ∨ c = 3 := by omega
  · injection hE with hE; subst hE; rw [if_pos rfl]; rfl
  · cases hE
  · cases hE
  · cases hE
set_option maxRecDepth 100000 in
set_option maxHeartbeats 1000000 in
theorem w_outputAt {mc mm : sM} (h : R mc mm) (p1 : Int32) : LAg Int32.toInt64 (f_L_outputAt p1 mc) (f_X10_outputAt p1 mm) := by
  unfold f_L_outputAt
  refine LAg_of (k_outputAt h p1) (fun v mc => ixl _ (by decide) (by decide)) (by decide) (fun c E mc hc hE => ?_)
  obtain rfl | rfl | rfl | rfl : c = 0 ∨ c = 1 ∨ c = 2 ∨ c = 3 := by omega
  · injection hE with hE; subst hE; rw [if_pos rfl]; rfl
  · cases hE
  · cases hE
  · cases hE
set_option maxRecDepth 100000 in
set_option maxHeartbeats 1000000 in
theorem w_commit {mc mm : sM} (h : R mc mm) (p1 : Int32) : LAg Int32.toInt64 (f_L_commit p1 mc) (f_X10_commit p1 mm) := by
  unfold f_L_commit
  refine LAg_of (k_commit h p1) (fun v mc => ixl _ (by decide) (by decide)) (by decide) (fun c E mc hc hE => ?_)
  obtain rfl | rfl | rfl | rfl : c = 0 ∨ c = 1 ∨ c = 2 ∨ c = 3 := by omega
  · injection hE with hE; subst hE; rw [if_pos rfl]; rfl
  · injection hE with hE; subst hE; rw [if_neg (by decide), if_pos rfl]; rfl
  · injection hE with hE; subst hE; rw [if_neg (by decide), if_neg (by decide), if_pos rfl]; rfl
  · cases hE
set_option maxRecDepth 100000 in
set_option maxHeartbeats 1000000 in
theorem w_reopen {mc mm : sM} (h : R mc mm) : LAg Int32.toInt64 (f_L_reopen mc) (f_X10_reopen mm) := by
  unfold f_L_reopen
  refine LAg_of (k_reopen h) (fun v mc => ixl _ (by decide) (by decide)) (by decide) (fun c E mc hc hE => ?_)
  obtain rfl | rfl | rfl | rfl : c = 0 ∨ c = 1 ∨ c = 2 ∨ c = 3 := by omega
  · injection hE with hE; subst hE; rw [if_pos rfl]; rfl
  · cases hE
  · cases hE
  · cases hE
set_option maxRecDepth 100000 in
set_option maxHeartbeats 1000000 in
theorem w_commitNumber {mc mm : sM} (h : R mc mm) : LAg Int32.toInt64 (f_L_commitNumber mc) (f_X10_commitNumber mm) := by
  unfold f_L_commitNumber
  refine LAg_of (k_commitNumber h) (fun v mc => ixl _ (by decide) (by decide)) (by decide) (fun c E mc hc hE => ?_)
  obtain rfl | rfl | rfl | rfl : c = 0 ∨ c = 1 ∨ c = 2 ∨ c = 3 := by omega
  · injection hE with hE; subst hE; rw [if_pos rfl]; rfl
  · cases hE
  · cases hE
  · cases hE
set_option maxRecDepth 100000 in
set_option maxHeartbeats 1000000 in
theorem w_size {mc mm : sM} (h : R mc mm) : LAg Int32.toInt64 (f_L_size mc) (f_X10_size mm) := by
  unfold f_L_size
  refine LAg_of (k_size h) (fun v mc => ixl _ (by decide) (by decide)) (by decide) (fun c E mc hc hE => ?_)
  obtain rfl | rfl | rfl | rfl : c = 0 ∨ c = 1 ∨ c = 2 ∨ c = 3 := by omega
  · injection hE with hE; subst hE; rw [if_pos rfl]; rfl
  · cases hE
  · cases hE
  · cases hE
set_option maxRecDepth 100000 in
set_option maxHeartbeats 1000000 in
theorem w_value {mc mm : sM} (h : R mc mm) (p1 : Int32) : LAg Int32.toInt64 (f_L_value p1 mc) (f_X10_value p1 mm) := by
  unfold f_L_value
  refine LAg_of (k_value h p1) (fun v mc => ixl _ (by decide) (by decide)) (by decide) (fun c E mc hc hE => ?_)
  obtain rfl | rfl | rfl | rfl : c = 0 ∨ c = 1 ∨ c = 2 ∨ c = 3 := by omega
  · injection hE with hE; subst hE; rw [if_pos rfl]; rfl
  · injection hE with hE; subst hE; rw [if_neg (by decide), if_pos rfl]; rfl
  · injection hE with hE; subst hE; rw [if_neg (by decide), if_neg (by decide), if_pos rfl]; rfl
  · cases hE
set_option maxRecDepth 100000 in
set_option maxHeartbeats 1000000 in
theorem w_keyAt {mc mm : sM} (h : R mc mm) (p1 : Int32) : LAg Int32.toInt64 (f_L_keyAt p1 mc) (f_X10_keyAt p1 mm) := by
  unfold f_L_keyAt
  refine LAg_of (k_keyAt h p1) (fun v mc => ixl _ (by decide) (by decide)) (by decide) (fun c E mc hc hE => ?_)
  obtain rfl | rfl | rfl | rfl : c = 0 ∨ c = 1 ∨ c = 2 ∨ c = 3 := by omega
  · injection hE with hE; subst hE; rw [if_pos rfl]; rfl
  · injection hE with hE; subst hE; rw [if_neg (by decide), if_pos rfl]; rfl
  · cases hE
  · cases hE
set_option maxRecDepth 100000 in
set_option maxHeartbeats 1000000 in
theorem w_sum {mc mm : sM} (h : R mc mm) (p1 p2 : Int32) : LAg Int32.toInt64 (f_L_sum p1 p2 mc) (f_X10_sum p1 p2 mm) := by
  unfold f_L_sum
  refine LAg_of (k_sum h p1 p2) (fun v mc => ixl _ (by decide) (by decide)) (by decide) (fun c E mc hc hE => ?_)
  obtain rfl | rfl | rfl | rfl : c = 0 ∨ c = 1 ∨ c = 2 ∨ c = 3 := by omega
  · injection hE with hE; subst hE; rw [if_pos rfl]; rfl
  · injection hE with hE; subst hE; rw [if_neg (by decide), if_pos rfl]; rfl
  · cases hE
  · cases hE
set_option maxRecDepth 100000 in
set_option maxHeartbeats 1000000 in
theorem w_pageBlock {mc mm : sM} (h : R mc mm) (p1 : Int32) : LAg Int32.toInt64 (f_L_pageBlock p1 mc) (f_X10_pageBlock p1 mm) := by
  unfold f_L_pageBlock
  refine LAg_of (k_pageBlock h p1) (fun v mc => ixl _ (by decide) (by decide)) (by decide) (fun c E mc hc hE => ?_)
  obtain rfl | rfl | rfl | rfl : c = 0 ∨ c = 1 ∨ c = 2 ∨ c = 3 := by omega
  · injection hE with hE; subst hE; rw [if_pos rfl]; rfl
  · injection hE with hE; subst hE; rw [if_neg (by decide), if_pos rfl]; rfl
  · cases hE
  · cases hE
set_option maxRecDepth 100000 in
set_option maxHeartbeats 1000000 in
theorem w_freeCount {mc mm : sM} (h : R mc mm) : LAg Int32.toInt64 (f_L_freeCount mc) (f_X10_freeCount mm) := by
  unfold f_L_freeCount
  refine LAg_of (k_freeCount h) (fun v mc => ixl _ (by decide) (by decide)) (by decide) (fun c E mc hc hE => ?_)
  obtain rfl | rfl | rfl | rfl : c = 0 ∨ c = 1 ∨ c = 2 ∨ c = 3 := by omega
  · injection hE with hE; subst hE; rw [if_pos rfl]; rfl
  · cases hE
  · cases hE
  · cases hE
set_option maxRecDepth 100000 in
set_option maxHeartbeats 1000000 in
theorem w_freeBlock {mc mm : sM} (h : R mc mm) (p1 : Int32) : LAg Int32.toInt64 (f_L_freeBlock p1 mc) (f_X10_freeBlock p1 mm) := by
  unfold f_L_freeBlock
  refine LAg_of (k_freeBlock h p1) (fun v mc => ixl _ (by decide) (by decide)) (by decide) (fun c E mc hc hE => ?_)
  obtain rfl | rfl | rfl | rfl : c = 0 ∨ c = 1 ∨ c = 2 ∨ c = 3 := by omega
  · injection hE with hE; subst hE; rw [if_pos rfl]; rfl
  · injection hE with hE; subst hE; rw [if_neg (by decide), if_pos rfl]; rfl
  · cases hE
  · cases hE
set_option maxRecDepth 100000 in
set_option maxHeartbeats 1000000 in
theorem w_wrongBlock {mc mm : sM} (h : R mc mm) : LAg Int32.toInt64 (f_L_wrongBlock mc) (f_X10_wrongBlock mm) := by
  unfold f_L_wrongBlock
  refine LAg_of (k_wrongBlock h) (fun v mc => ixl _ (by decide) (by decide)) (by decide) (fun c E mc hc hE => ?_)
  obtain rfl | rfl | rfl | rfl : c = 0 ∨ c = 1 ∨ c = 2 ∨ c = 3 := by omega
  · injection hE with hE; subst hE; rw [if_pos rfl]; rfl
  · cases hE
  · cases hE
  · cases hE
set_option maxRecDepth 100000 in
set_option maxHeartbeats 1000000 in
theorem w_logged {mc mm : sM} (h : R mc mm) (p1 p2 : Int32) : LAg Int32.toInt64 (f_L_logged p1 p2 mc) (f_X10_logged p1 p2 mm) := by
  unfold f_L_logged
  refine LAg_of (k_logged h p1 p2) (fun v mc => ixl _ (by decide) (by decide)) (by decide) (fun c E mc hc hE => ?_)
  obtain rfl | rfl | rfl | rfl : c = 0 ∨ c = 1 ∨ c = 2 ∨ c = 3 := by omega
  · injection hE with hE; subst hE; rw [if_pos rfl]; rfl
  · injection hE with hE; subst hE; rw [if_neg (by decide), if_pos rfl]; rfl
  · cases hE
  · cases hE
set_option maxRecDepth 100000 in
set_option maxHeartbeats 1000000 in
theorem w_statistic {mc mm : sM} (h : R mc mm) (p1 : Int32) : LAg Int32.toInt64 (f_L_statistic p1 mc) (f_X10_statistic p1 mm) := by
  unfold f_L_statistic
  refine LAg_of (k_statistic h p1) (fun v mc => ixl _ (by decide) (by decide)) (by decide) (fun c E mc hc hE => ?_)
  obtain rfl | rfl | rfl | rfl : c = 0 ∨ c = 1 ∨ c = 2 ∨ c = 3 := by omega
  · injection hE with hE; subst hE; rw [if_pos rfl]; rfl
  · cases hE
  · cases hE
  · cases hE
set_option maxRecDepth 100000 in
set_option maxHeartbeats 1000000 in
theorem w_pin {mc mm : sM} (h : R mc mm) : LAg Int32.toInt64 (f_L_pin mc) (f_X10_pin mm) := by
  unfold f_L_pin
  refine LAg_of (k_pin h) (fun v mc => ixl _ (by decide) (by decide)) (by decide) (fun c E mc hc hE => ?_)
  obtain rfl | rfl | rfl | rfl : c = 0 ∨ c = 1 ∨ c = 2 ∨ c = 3 := by omega
  · injection hE with hE; subst hE; rw [if_pos rfl]; rfl
  · cases hE
  · cases hE
  · cases hE
set_option maxRecDepth 100000 in
set_option maxHeartbeats 1000000 in
theorem w_pinnedValue {mc mm : sM} (h : R mc mm) (p1 p2 : Int32) : LAg Int32.toInt64 (f_L_pinnedValue p1 p2 mc) (f_X10_pinnedValue p1 p2 mm) := by
  unfold f_L_pinnedValue
  refine LAg_of (k_pinnedValue h p1 p2) (fun v mc => ixl _ (by decide) (by decide)) (by decide) (fun c E mc hc hE => ?_)
  obtain rfl | rfl | rfl | rfl : c = 0 ∨ c = 1 ∨ c = 2 ∨ c = 3 := by omega
  · injection hE with hE; subst hE; rw [if_pos rfl]; rfl
  · injection hE with hE; subst hE; rw [if_neg (by decide), if_pos rfl]; rfl
  · injection hE with hE; subst hE; rw [if_neg (by decide), if_neg (by decide), if_pos rfl]; rfl
  · injection hE with hE; subst hE; rw [if_neg (by decide), if_neg (by decide), if_neg (by decide), if_pos rfl]; rfl
set_option maxRecDepth 100000 in
set_option maxHeartbeats 1000000 in
theorem w_pinnedCommit {mc mm : sM} (h : R mc mm) (p1 : Int32) : LAg Int32.toInt64 (f_L_pinnedCommit p1 mc) (f_X10_pinnedCommit p1 mm) := by
  unfold f_L_pinnedCommit
  refine LAg_of (k_pinnedCommit h p1) (fun v mc => ixl _ (by decide) (by decide)) (by decide) (fun c E mc hc hE => ?_)
  obtain rfl | rfl | rfl | rfl : c = 0 ∨ c = 1 ∨ c = 2 ∨ c = 3 := by omega
  · injection hE with hE; subst hE; rw [if_pos rfl]; rfl
  · injection hE with hE; subst hE; rw [if_neg (by decide), if_pos rfl]; rfl
  · cases hE
  · cases hE
set_option maxRecDepth 100000 in
set_option maxHeartbeats 1000000 in
theorem w_unpin {mc mm : sM} (h : R mc mm) (p1 : Int32) : LAg Int32.toInt64 (f_L_unpin p1 mc) (f_X10_unpin p1 mm) := by
  unfold f_L_unpin
  refine LAg_of (k_unpin h p1) (fun v mc => ixl _ (by decide) (by decide)) (by decide) (fun c E mc hc hE => ?_)
  obtain rfl | rfl | rfl | rfl : c = 0 ∨ c = 1 ∨ c = 2 ∨ c = 3 := by omega
  · injection hE with hE; subst hE; rw [if_pos rfl]; rfl
  · injection hE with hE; subst hE; rw [if_neg (by decide), if_pos rfl]; rfl
  · cases hE
  · cases hE
set_option maxRecDepth 100000 in
set_option maxHeartbeats 1000000 in
theorem w_differences {mc mm : sM} (h : R mc mm) (p1 : Int32) : LAg Int32.toInt64 (f_L_differences p1 mc) (f_X10_differences p1 mm) := by
  unfold f_L_differences
  refine LAg_of (k_differences h p1) (fun v mc => ixl _ (by decide) (by decide)) (by decide) (fun c E mc hc hE => ?_)
  obtain rfl | rfl | rfl | rfl : c = 0 ∨ c = 1 ∨ c = 2 ∨ c = 3 := by omega
  · injection hE with hE; subst hE; rw [if_pos rfl]; rfl
  · injection hE with hE; subst hE; rw [if_neg (by decide), if_pos rfl]; rfl
  · cases hE
  · cases hE
set_option maxRecDepth 100000 in
set_option maxHeartbeats 1000000 in
theorem w_differentKey {mc mm : sM} (h : R mc mm) (p1 p2 : Int32) : LAg Int32.toInt64 (f_L_differentKey p1 p2 mc) (f_X10_differentKey p1 p2 mm) := by
  unfold f_L_differentKey
  refine LAg_of (k_differentKey h p1 p2) (fun v mc => ixl _ (by decide) (by decide)) (by decide) (fun c E mc hc hE => ?_)
  obtain rfl | rfl | rfl | rfl : c = 0 ∨ c = 1 ∨ c = 2 ∨ c = 3 := by omega
  · injection hE with hE; subst hE; rw [if_pos rfl]; rfl
  · injection hE with hE; subst hE; rw [if_neg (by decide), if_pos rfl]; rfl
  · injection hE with hE; subst hE; rw [if_neg (by decide), if_neg (by decide), if_pos rfl]; rfl
  · cases hE
set_option maxRecDepth 100000 in
set_option maxHeartbeats 1000000 in
theorem w_cell {mc mm : sM} (h : R mc mm) (p1 p2 : Int32) : LAg Int32.toInt64 (f_L_cell p1 p2 mc) (f_X10_cell p1 p2 mm) := by
  unfold f_L_cell
  refine LAg_of (k_cell h p1 p2) (fun v mc => ixl _ (by decide) (by decide)) (by decide) (fun c E mc hc hE => ?_)
  obtain rfl | rfl | rfl | rfl : c = 0 ∨ c = 1 ∨ c = 2 ∨ c = 3 := by omega
  · injection hE with hE; subst hE; rw [if_pos rfl]; rfl
  · cases hE
  · cases hE
  · cases hE
set_option maxRecDepth 100000 in
set_option maxHeartbeats 1000000 in
theorem w_damage {mc mm : sM} (h : R mc mm) (p1 p2 p3 : Int32) : LAg Int32.toInt64 (f_L_damage p1 p2 p3 mc) (f_X10_damage p1 p2 p3 mm) := by
  unfold f_L_damage
  refine LAg_of (k_damage h p1 p2 p3) (fun v mc => ixl _ (by decide) (by decide)) (by decide) (fun c E mc hc hE => ?_)
  obtain rfl | rfl | rfl | rfl : c = 0 ∨ c = 1 ∨ c = 2 ∨ c = 3 := by omega
  · injection hE with hE; subst hE; rw [if_pos rfl]; rfl
  · cases hE
  · cases hE
  · cases hE
set_option maxRecDepth 100000 in
set_option maxHeartbeats 1000000 in
theorem w_checksum {mc mm : sM} (h : R mc mm) (p1 : Int32) : LAg Int32.toInt64 (f_L_checksum p1 mc) (f_X10_checksum p1 mm) := by
  unfold f_L_checksum
  refine LAg_of (k_checksum h p1) (fun v mc => ixl _ (by decide) (by decide)) (by decide) (fun c E mc hc hE => ?_)
  obtain rfl | rfl | rfl | rfl : c = 0 ∨ c = 1 ∨ c = 2 ∨ c = 3 := by omega
  · injection hE with hE; subst hE; rw [if_pos rfl]; rfl
  · cases hE
  · cases hE
  · cases hE
set_option maxRecDepth 100000 in
set_option maxHeartbeats 1000000 in
theorem w_isValid {mc mm : sM} (h : R mc mm) (p1 : Int32) : LAg cvB (f_L_isValid p1 mc) (f_X10_isValid p1 mm) := by
  unfold f_L_isValid
  refine LAg_of (k_isValid h p1) (fun v mc => by unfold cvB; rw [jn_]; by_cases q : v = 0 <;> simp only [q, if_true, if_false] <;> exact (ixl _ (by decide) (by decide))) (by decide) (fun c E mc hc hE => ?_)
  obtain rfl | rfl | rfl | rfl : c = 0 ∨ c = 1 ∨ c = 2 ∨ c = 3 := by omega
  · injection hE with hE; subst hE; rw [if_pos rfl]; rfl
  · cases hE
  · cases hE
  · cases hE
set_option maxRecDepth 100000 in
set_option maxHeartbeats 1000000 in
theorem w_salvaged {mc mm : sM} (h : R mc mm) (p1 p2 : Int32) : LAg Int32.toInt64 (f_L_salvaged p1 p2 mc) (f_X10_salvaged p1 p2 mm) := by
  unfold f_L_salvaged
  refine LAg_of (k_salvaged h p1 p2) (fun v mc => ixl _ (by decide) (by decide)) (by decide) (fun c E mc hc hE => ?_)
  obtain rfl | rfl | rfl | rfl : c = 0 ∨ c = 1 ∨ c = 2 ∨ c = 3 := by omega
  · injection hE with hE; subst hE; rw [if_pos rfl]; rfl
  · injection hE with hE; subst hE; rw [if_neg (by decide), if_pos rfl]; rfl
  · cases hE
  · cases hE
set_option maxRecDepth 100000 in
set_option maxHeartbeats 1000000 in
theorem w_adopt {mc mm : sM} (h : R mc mm) (p1 : Int32) : LAg Int32.toInt64 (f_L_adopt p1 mc) (f_X10_adopt p1 mm) := by
  unfold f_L_adopt
  refine LAg_of (k_adopt h p1) (fun v mc => ixl _ (by decide) (by decide)) (by decide) (fun c E mc hc hE => ?_)
  obtain rfl | rfl | rfl | rfl : c = 0 ∨ c = 1 ∨ c = 2 ∨ c = 3 := by omega
  · injection hE with hE; subst hE; rw [if_pos rfl]; rfl
  · injection hE with hE; subst hE; rw [if_neg (by decide), if_pos rfl]; rfl
  · cases hE
  · cases hE
