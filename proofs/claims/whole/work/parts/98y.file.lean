/-! CONSTRUCTORS: the file. Written by wip/whole/ctors2.py. -/
def mc0 : sM := (fun a => if a = 52 then (fun k => if k = 0 then (-1) else 0) else if a = 36 ∨ a = 39 ∨ a = 42 ∨ a = 45 then (fun k => if k = 5 then 2 else 0) else fun _ => 0, fun _ _ => 0)
def n_ad (l : List Nat) : Nat → Nat := fun a => l.getD a 0
set_option maxRecDepth 100000 in
set_option maxHeartbeats 1000000 in
theorem n_pq {α : Type} (x s p : α) (M : List α) : (x :: s :: (M ++ [p])).Perm (x :: s :: p :: M) := ((List.perm_append_singleton p M).cons s).cons x
set_option maxRecDepth 100000 in
set_option maxHeartbeats 1000000 in
theorem n_shuf {α : Type} (f : Nat → List α) (l l' : List Nat) (h : l.Perm l') : ((l.map f).flatten).Perm ((l'.map f).flatten) := (h.map f).flatten
-- remark: the same cells, rows of references told by their places alone
def n_sE (a b : Nat × va_E) : Prop := a = b ∨ ∃ (q : Nat) (c : ClassId) (x y : vp_A), a = (q, .inl (c, x)) ∧ b = (q, .inl (c, y)) ∧ vp_cell c x = vp_cell c y
def n_sim : va_W → va_W → Prop
  | [], [] => True
  | a :: w, b :: w' => n_sE a b ∧ n_sim w w'
  | _, _ => False
set_option maxRecDepth 100000 in
set_option maxHeartbeats 1000000 in
theorem n_sim_rf : ∀ (w : va_W), n_sim w w
  | [] => trivial
  | _ :: w => ⟨Or.inl rfl, n_sim_rf w⟩
set_option maxRecDepth 100000 in
set_option maxHeartbeats 1000000 in
theorem n_sim_eq {w w' : va_W} (h : w = w') : n_sim w w' := h ▸ n_sim_rf w
set_option maxRecDepth 100000 in
set_option maxHeartbeats 1000000 in
theorem n_sim_app0 : ∀ (a a' b b' : va_W), n_sim a a' → n_sim b b' → n_sim (a ++ b) (a' ++ b')
  | [], [], _, _, _, h => h
  | _ :: a, _ :: a', b, b', h, h2 => ⟨h.1, n_sim_app0 a a' b b' h.2 h2⟩
  | [], _ :: _, _, _, h, _ => h.elim
  | _ :: _, [], _, _, h, _ => h.elim
set_option maxRecDepth 100000 in
set_option maxHeartbeats 1000000 in
theorem n_sim_app {a a' b b' : va_W} (h1 : n_sim a a') (h2 : n_sim b b') : n_sim (a ++ b) (a' ++ b') := n_sim_app0 a a' b b' h1 h2
set_option maxRecDepth 100000 in
set_option maxHeartbeats 1000000 in
theorem n_sim_map {f g : Nat → Nat × va_E} : ∀ (l : List Nat), (∀ a ∈ l, n_sE (f a) (g a)) → n_sim (l.map f) (l.map g)
  | [], _ => trivial
  | a :: l, h => ⟨h a List.mem_cons_self, n_sim_map l fun b hb => h b (List.mem_cons_of_mem _ hb)⟩
set_option maxRecDepth 100000 in
set_option maxHeartbeats 1000000 in
theorem n_sim_P {D : va_G} {cl : List vw_C} {H : Heap} : ∀ (w w' : va_W), n_sim w w' → (∀ q ∈ w, va_at D cl q H) → ∀ q ∈ w', va_at D cl q H
  | [], [], _, _ => fun q hq => absurd hq List.not_mem_nil
  | a :: w, b :: w', h, hp => fun q hq => by
    rcases List.mem_cons.mp hq with hq | hq
    · subst hq
      rcases h.1 with e | ⟨q', c, x, y, e1, e2, e3⟩
      · rw [← e]; exact hp a List.mem_cons_self
      · subst e1
        subst e2
        have h1 : H[q']? = some (vp_cell c x) := hp _ List.mem_cons_self
        show H[q']? = some (vp_cell c y)
        rw [← e3]; exact h1
    · exact n_sim_P w w' h.2 (fun z hz => hp z (List.mem_cons_of_mem _ hz)) q hq
  | [], _ :: _, h, _ => h.elim
  | _ :: _, [], h, _ => h.elim
set_option maxRecDepth 100000 in
set_option maxHeartbeats 1000000 in
theorem n_sim_fst : ∀ (w w' : va_W), n_sim w w' → w.map (·.1) = w'.map (·.1)
  | [], [], _ => rfl
  | a :: w, b :: w', h => by
    have e : a.1 = b.1 := by
      rcases h.1 with e | ⟨q', c, x, y, e1, e2, _⟩
      · rw [e]
      · rw [e1, e2]
    rw [List.map_cons, List.map_cons, e, n_sim_fst w w' h.2]
  | [], _ :: _, h => h.elim
  | _ :: _, [], h => h.elim
set_option maxRecDepth 100000 in
set_option maxHeartbeats 1000000 in
theorem n_D_fst {A : Nat → Prop} {w w' : va_W} (e : w.map (·.1) = w'.map (·.1)) (h : va_D A w) : va_D A w' := by
  obtain ⟨h1, h2⟩ := n_D_iff.mp h
  refine n_D_iff.mpr ⟨e ▸ h1, fun q hq => ?_⟩
  have hm : q.1 ∈ w.map (·.1) := e ▸ List.mem_map.mpr ⟨q, hq, rfl⟩
  obtain ⟨z, hz, ez⟩ := List.mem_map.mp hm
  rw [← ez]; exact h2 z hz
set_option maxRecDepth 100000 in
set_option maxHeartbeats 1000000 in
theorem n_simV {own : String} {cc : ByteArray} {nL : Nat} {Ts : List Cond} {R : Room} {dA : Nat → ClassId} {I : Bool} {Post : va_W → Prop} {V : nTy} (C : nCX own cc nL Ts R dA I Post V) {cells slots pc : Nat} {lv : List (Nat × Value)} {st : List Value} {w w2 : va_W} (hp : n_sim w w2) (k : V cells slots pc lv st w2) : V cells slots pc lv st w := by
  obtain ⟨p, l, e, s, mi, args, below, meth, c, Q, dC, dI, A, hx, hb, hml, hown, hts, hst, hK, hA, hE, hNE, hin, hret, rfl⟩ := C
  intro H locs ls hP hD hS hl
  exact k H locs ls (n_P_iff.mpr (n_sim_P _ _ hp (n_P_iff.mp hP))) (n_D_fst (n_sim_fst _ _ hp) hD) hS hl
set_option maxRecDepth 100000 in
set_option maxHeartbeats 1000000 in
theorem s_w_app (dA : Nat → ClassId) (ad : Nat → Nat) (lo a b : Nat) (m : sM) : s_w dA ad lo (a + b) m = s_w dA ad lo a m ++ s_w dA ad (lo + a) b m := by
  unfold s_w
  rw [← List.map_append, List.range'_append_1]
set_option maxRecDepth 100000 in
set_option maxHeartbeats 1000000 in
theorem n_sim_cat {w1 w2 : va_W} {dA : Nat → ClassId} {ad : Nat → Nat} {lo a b : Nat} {m : sM} (h1 : n_sim w1 (s_w dA ad lo a m)) (h2 : n_sim w2 (s_w dA ad (lo + a) b m)) : n_sim (w1 ++ w2) (s_w dA ad lo (a + b) m) := by
  rw [s_w_app]; exact n_sim_app h1 h2
set_option maxRecDepth 100000 in
set_option maxHeartbeats 1000000 in
theorem n_sim_row {q : Nat} {c : ClassId} {n : Nat} {f g : Nat → Option Nat} (h : ∀ i, i < n → f i = g i) : n_sim [(q, .inl (c, (n, .inr (.inr (.inr (.inr f))))))] [(q, .inl (c, (n, .inr (.inr (.inr (.inr g))))))] := ⟨Or.inr ⟨q, c, _, _, rfl, rfl, n_cell_q c h⟩, trivial⟩
set_option maxRecDepth 100000 in
set_option maxHeartbeats 1000000 in
theorem n_file {α : Type} (b0 b1 b2 b3 b4 b5 b6 b7 b8 b9 b10 b11 b12 b13 b14 b15 b16 b17 b18 b19 b20 b21 b22 b23 b24 b25 b26 b27 b28 b29 b30 b31 b32 b33 b34 b35 b36 b37 b38 b39 : List α) : ([b0, b9, b13, b1, b2, b4, b3, b5, b6, b11, b12, b32, b10, b33, b34, b35, b36, b37, b38, b39, b14, b16, b15, b17, b18, b19, b20, b22, b21, b23, b24, b25, b26, b28, b27, b29, b30, b31, b7, b8].flatten).Perm ([b0, b1, b2, b3, b4, b5, b6, b7, b8, b9, b10, b11, b12, b13, b14, b15, b16, b17, b18, b19, b20, b21, b22, b23, b24, b25, b26, b27, b28, b29, b30, b31, b32, b33, b34, b35, b36, b37, b38, b39].flatten) :=
  n_shuf (fun i => [b0, b1, b2, b3, b4, b5, b6, b7, b8, b9, b10, b11, b12, b13, b14, b15, b16, b17, b18, b19, b20, b21, b22, b23, b24, b25, b26, b27, b28, b29, b30, b31, b32, b33, b34, b35, b36, b37, b38, b39].getD i []) [0, 9, 13, 1, 2, 4, 3, 5, 6, 11, 12, 32, 10, 33, 34, 35, 36, 37, 38, 39, 14, 16, 15, 17, 18, 19, 20, 22, 21, 23, 24, 25, 26, 28, 27, 29, 30, 31, 7, 8] [0, 1, 2, 3, 4, 5, 6, 7, 8, 9, 10, 11, 12, 13, 14, 15, 16, 17, 18, 19, 20, 21, 22, 23, 24, 25, 26, 27, 28, 29, 30, 31, 32, 33, 34, 35, 36, 37, 38, 39] (by decide +kernel)
set_option maxRecDepth 100000 in
set_option maxHeartbeats 1000000 in
theorem n_X9_init : n_Con yX9_init wsX9_init 17 250 108 3206 (.inr (9, [.null, .null, .null, .null, .null, .null, .null, .int 0, .null, .null, .null, .null, .null, .null, .null, .int 0])) (fun dA h0 w => ∃ ad : Nat → Nat, ad 0 = h0 ∧ w = s_w dA ad 0 109 (x_new mc0)) := by
  refine n_con_of cX9_init 2 RX9 (by decide) rfl rfl (by decide) rfl (fun dA h0 V C => ?_)
  have F_i9 : ∀ w ∈ wsX90, w ∈ wsX9_init := by decide +kernel
  have F_i1 : ∀ w ∈ wsX10, w ∈ wsX9_init := by decide +kernel
  have F_i8 : ∀ w ∈ wsX80, w ∈ wsX9_init := by decide +kernel
  have F_i0 : ∀ w ∈ wsX00, w ∈ wsX9_init := by decide +kernel
  have F_i5 : ∀ w ∈ wsX50, w ∈ wsX9_init := by decide +kernel
  have F_i7 : ∀ w ∈ wsX70, w ∈ wsX9_init := by decide +kernel
  have F_i2 : ∀ w ∈ wsX20, w ∈ wsX9_init := by decide +kernel
  have F_i4 : ∀ w ∈ wsX40, w ∈ wsX9_init := by decide +kernel
  have F_i3 : ∀ w ∈ wsX30, w ∈ wsX9_init := by decide +kernel
  have F_i6 : ∀ w ∈ wsX60, w ∈ wsX9_init := by decide +kernel
  refine n_aload C dX9_init_0 rfl 0 rfl ?_
  refine n_obj C (by decide +kernel) (by decide +kernel) (by decide +kernel) dX9_init_1 (by decide) (by decide) ?_
  refine n_aload C dX9_init_4 rfl 0 rfl ?_
  refine n_new C (ci := 1) (C' := RX1) (T := TX1) (N := 2) (fs := [.null, .null]) (tyf := tyX1) dX9_init_5 F_i1 tyX1_ok (by decide +kernel) (by decide +kernel) (by decide +kernel) rfl (fun j hj => by rcases (show j = 0 ∨ j = 1 by omega) with rfl | rfl <;> rfl) (by decide) (by decide) (fun qD => ?_)
  refine n_dup C dX9_init_8 ?_
  refine n_callN C (host := RX9) n_X1_init dX9_init_9 gX9_init_X1_init_n9 (by decide +kernel) (by decide +kernel) (by decide +kernel) rfl rfl ⟨(by decide), (by decide), (by decide +kernel)⟩ ⟨(Nat.le_of_ble_eq_true rfl), (Nat.le_of_ble_eq_true rfl)⟩ (Nat.le_of_ble_eq_true rfl) (by decide) (by decide) (fun wD hD => ?_)
  show V _ _ _ _ (.ref qD :: .ref h0 :: []) ((h0, .inr (9, [.null, .null, .null, .null, .null, .null, .null, .int 0, .null, .null, .null, .null, .null, .null, .null, .int 0])) :: wD)
  refine n_putF C (a := h0) (ci := 9) (C' := RX9) (ref := RX9) (T := TX9) (N := 16) (kf := 0) (tyf := tyX9) (ty := .object "ShadowFile$Disk") (v := .ref qD) (fs' := [.ref qD, .null, .null, .null, .null, .null, .null, .int 0, .null, .null, .null, .null, .null, .null, .null, .int 0]) dX9_init_12 F_i9 tyX9_ok nmX9 rfl (by decide) (by decide +kernel) rfl rfl rfl rfl rfl rfl rfl (Nat.le_of_ble_eq_true rfl) rfl ?_
  refine n_aload C dX9_init_15 rfl 0 rfl ?_
  refine n_new C (ci := 8) (C' := RX8) (T := TX8) (N := 6) (fs := [.null, .null, .long 0, .int 0, .int 0, .int 0]) (tyf := tyX8) dX9_init_16 F_i8 tyX8_ok (by decide +kernel) (by decide +kernel) (by decide +kernel) rfl (fun j hj => by rcases (show j = 0 ∨ j = 1 ∨ j = 2 ∨ j = 3 ∨ j = 4 ∨ j = 5 by omega) with rfl | rfl | rfl | rfl | rfl | rfl <;> rfl) (by decide) (by decide) (fun qV => ?_)
  refine n_dup C dX9_init_19 ?_
  refine n_callN C (host := RX9) n_X8_init dX9_init_20 gX9_init_X8_init_n18 (by decide +kernel) (by decide +kernel) (by decide +kernel) rfl rfl ⟨(by decide), (by decide), (by decide +kernel)⟩ ⟨(Nat.le_of_ble_eq_true rfl), (Nat.le_of_ble_eq_true rfl)⟩ (Nat.le_of_ble_eq_true rfl) (by decide) (by decide) (fun wV hV => ?_)
  show V _ _ _ _ (.ref qV :: .ref h0 :: []) ((h0, .inr (9, [.ref qD, .null, .null, .null, .null, .null, .null, .int 0, .null, .null, .null, .null, .null, .null, .null, .int 0])) :: (wD ++ wV))
  refine n_putF C (a := h0) (ci := 9) (C' := RX9) (ref := RX9) (T := TX9) (N := 16) (kf := 1) (tyf := tyX9) (ty := .object "ShadowFile$Version") (v := .ref qV) (fs' := [.ref qD, .ref qV, .null, .null, .null, .null, .null, .int 0, .null, .null, .null, .null, .null, .null, .null, .int 0]) dX9_init_23 F_i9 tyX9_ok nmX9 rfl (by decide) (by decide +kernel) rfl rfl rfl rfl rfl rfl rfl (Nat.le_of_ble_eq_true rfl) rfl ?_
  refine n_aload C dX9_init_26 rfl 0 rfl ?_
  refine n_new C (ci := 8) (C' := RX8) (T := TX8) (N := 6) (fs := [.null, .null, .long 0, .int 0, .int 0, .int 0]) (tyf := tyX8) dX9_init_27 F_i8 tyX8_ok (by decide +kernel) (by decide +kernel) (by decide +kernel) rfl (fun j hj => by rcases (show j = 0 ∨ j = 1 ∨ j = 2 ∨ j = 3 ∨ j = 4 ∨ j = 5 by omega) with rfl | rfl | rfl | rfl | rfl | rfl <;> rfl) (by decide) (by decide) (fun qN => ?_)
  refine n_dup C dX9_init_30 ?_
  refine n_callN C (host := RX9) n_X8_init dX9_init_31 gX9_init_X8_init_n18 (by decide +kernel) (by decide +kernel) (by decide +kernel) rfl rfl ⟨(by decide), (by decide), (by decide +kernel)⟩ ⟨(Nat.le_of_ble_eq_true rfl), (Nat.le_of_ble_eq_true rfl)⟩ (Nat.le_of_ble_eq_true rfl) (by decide) (by decide) (fun wN hN => ?_)
  show V _ _ _ _ (.ref qN :: .ref h0 :: []) ((h0, .inr (9, [.ref qD, .ref qV, .null, .null, .null, .null, .null, .int 0, .null, .null, .null, .null, .null, .null, .null, .int 0])) :: ((wD ++ wV) ++ wN))
  refine n_putF C (a := h0) (ci := 9) (C' := RX9) (ref := RX9) (T := TX9) (N := 16) (kf := 2) (tyf := tyX9) (ty := .object "ShadowFile$Version") (v := .ref qN) (fs' := [.ref qD, .ref qV, .ref qN, .null, .null, .null, .null, .int 0, .null, .null, .null, .null, .null, .null, .null, .int 0]) dX9_init_34 F_i9 tyX9_ok nmX9 rfl (by decide) (by decide +kernel) rfl rfl rfl rfl rfl rfl rfl (Nat.le_of_ble_eq_true rfl) rfl ?_
  refine n_aload C dX9_init_37 rfl 0 rfl ?_
  refine n_new C (ci := 0) (C' := RX0) (T := TX0) (N := 3) (fs := [.null, .long 0, .long 0]) (tyf := tyX0) dX9_init_38 F_i0 tyX0_ok (by decide +kernel) (by decide +kernel) (by decide +kernel) rfl (fun j hj => by rcases (show j = 0 ∨ j = 1 ∨ j = 2 by omega) with rfl | rfl | rfl <;> rfl) (by decide) (by decide) (fun qC => ?_)
  refine n_dup C dX9_init_41 ?_
  refine n_callN C (host := RX9) n_X0_init dX9_init_42 gX9_init_X0_init_n28 (by decide +kernel) (by decide +kernel) (by decide +kernel) rfl rfl ⟨(by decide), (by decide), (by decide +kernel)⟩ ⟨(Nat.le_of_ble_eq_true rfl), (Nat.le_of_ble_eq_true rfl)⟩ (Nat.le_of_ble_eq_true rfl) (by decide) (by decide) (fun wC hC => ?_)
  show V _ _ _ _ (.ref qC :: .ref h0 :: []) ((h0, .inr (9, [.ref qD, .ref qV, .ref qN, .null, .null, .null, .null, .int 0, .null, .null, .null, .null, .null, .null, .null, .int 0])) :: (((wD ++ wV) ++ wN) ++ wC))
  refine n_putF C (a := h0) (ci := 9) (C' := RX9) (ref := RX9) (T := TX9) (N := 16) (kf := 3) (tyf := tyX9) (ty := .object "ShadowFile$Changes") (v := .ref qC) (fs' := [.ref qD, .ref qV, .ref qN, .ref qC, .null, .null, .null, .int 0, .null, .null, .null, .null, .null, .null, .null, .int 0]) dX9_init_45 F_i9 tyX9_ok nmX9 rfl (by decide) (by decide +kernel) rfl rfl rfl rfl rfl rfl rfl (Nat.le_of_ble_eq_true rfl) rfl ?_
  refine n_aload C dX9_init_48 rfl 0 rfl ?_
  refine n_new C (ci := 5) (C' := RX5) (T := TX5) (N := 3) (fs := [.int 0, .int 0, .int 0]) (tyf := tyX5) dX9_init_49 F_i5 tyX5_ok (by decide +kernel) (by decide +kernel) (by decide +kernel) rfl (fun j hj => by rcases (show j = 0 ∨ j = 1 ∨ j = 2 by omega) with rfl | rfl | rfl <;> rfl) (by decide) (by decide) (fun qP => ?_)
  refine n_dup C dX9_init_52 ?_
  refine n_callN C (host := RX9) n_X5_init dX9_init_53 gX9_init_X5_init_n35 (by decide +kernel) (by decide +kernel) (by decide +kernel) rfl rfl ⟨(by decide), (by decide), (by decide +kernel)⟩ ⟨(Nat.le_of_ble_eq_true rfl), (Nat.le_of_ble_eq_true rfl)⟩ (Nat.le_of_ble_eq_true rfl) (by decide) (by decide) (fun wP hP => ?_)
  show V _ _ _ _ (.ref qP :: .ref h0 :: []) ((h0, .inr (9, [.ref qD, .ref qV, .ref qN, .ref qC, .null, .null, .null, .int 0, .null, .null, .null, .null, .null, .null, .null, .int 0])) :: ((((wD ++ wV) ++ wN) ++ wC) ++ wP))
  refine n_putF C (a := h0) (ci := 9) (C' := RX9) (ref := RX9) (T := TX9) (N := 16) (kf := 4) (tyf := tyX9) (ty := .object "ShadowFile$Power") (v := .ref qP) (fs' := [.ref qD, .ref qV, .ref qN, .ref qC, .ref qP, .null, .null, .int 0, .null, .null, .null, .null, .null, .null, .null, .int 0]) dX9_init_56 F_i9 tyX9_ok nmX9 rfl (by decide) (by decide +kernel) rfl rfl rfl rfl rfl rfl rfl (Nat.le_of_ble_eq_true rfl) rfl ?_
  refine n_aload C dX9_init_59 rfl 0 rfl ?_
  refine n_iconst C (v := 3) dX9_init_60 (by decide) ?_
  refine n_newq C 3 (C' := RX7) (N' := 3) dX9_init_61 (by decide +kernel) (fun _ U => U.2.1) (fun _ => rfl) (by decide) (by decide) (by decide) (by decide) (by decide) (fun qs => ?_)
  refine n_putF C (a := h0) (ci := 9) (C' := RX9) (ref := RX9) (T := TX9) (N := 16) (kf := 5) (tyf := tyX9) (ty := .array (.object "ShadowFile$Slot")) (v := .ref qs) (fs' := [.ref qD, .ref qV, .ref qN, .ref qC, .ref qP, .ref qs, .null, .int 0, .null, .null, .null, .null, .null, .null, .null, .int 0]) dX9_init_64 F_i9 tyX9_ok nmX9 rfl (by decide) (by decide +kernel) rfl rfl rfl rfl rfl rfl rfl (Nat.le_of_ble_eq_true rfl) rfl ?_
  refine n_perm C ((h0, .inr (9, [.ref qD, .ref qV, .ref qN, .ref qC, .ref qP, .ref qs, .null, .int 0, .null, .null, .null, .null, .null, .null, .null, .int 0])) :: (qs, .inl (dA 3, 3, .inr (.inr (.inr (.inr (fun _ => none)))))) :: ((((wD ++ wV) ++ wN) ++ wC) ++ wP)) (n_pe _ _ _) ?_
  refine n_aload C dX9_init_67 rfl 0 rfl ?_
  refine n_iconst C (v := 3) dX9_init_68 (by decide) ?_
  refine n_newa C 0 (a0 := (3, .inl (fun _ => 0))) (N' := 3) dX9_init_69 (by decide +kernel) rfl (fun _ => rfl) (fun _ => rfl) (by decide) (by decide) (by decide) (by decide) (by decide) (fun qr => ?_)
  show V _ _ _ _ (.ref qr :: .ref h0 :: []) ((h0, .inr (9, [.ref qD, .ref qV, .ref qN, .ref qC, .ref qP, .ref qs, .null, .int 0, .null, .null, .null, .null, .null, .null, .null, .int 0])) :: (qs, .inl (dA 3, 3, .inr (.inr (.inr (.inr (fun _ => none)))))) :: (((((wD ++ wV) ++ wN) ++ wC) ++ wP) ++ [(qr, .inl (dA 0, (3, .inl (fun _ => 0))))]))
  refine n_putF C (a := h0) (ci := 9) (C' := RX9) (ref := RX9) (T := TX9) (N := 16) (kf := 6) (tyf := tyX9) (ty := .array .int) (v := .ref qr) (fs' := [.ref qD, .ref qV, .ref qN, .ref qC, .ref qP, .ref qs, .ref qr, .int 0, .null, .null, .null, .null, .null, .null, .null, .int 0]) dX9_init_71 F_i9 tyX9_ok nmX9 rfl (by decide) (by decide +kernel) rfl rfl rfl rfl rfl rfl rfl (Nat.le_of_ble_eq_true rfl) rfl ?_
  refine n_aload C dX9_init_74 rfl 0 rfl ?_
  refine n_iconst C (v := 0) dX9_init_75 (by decide) ?_
  refine n_put C (a := h0) (ci := 9) (C' := RX9) (ref := RX9) (T := TX9) (N := 16) (kf := 7) (tyf := tyX9) (ty := .int) (v := .int 0) (fs' := [.ref qD, .ref qV, .ref qN, .ref qC, .ref qP, .ref qs, .ref qr, .int 0, .null, .null, .null, .null, .null, .null, .null, .int 0]) dX9_init_76 F_i9 tyX9_ok nmX9 rfl (by decide) (by decide +kernel) rfl rfl rfl rfl rfl (Nat.le_of_ble_eq_true rfl) rfl ?_
  refine n_aload C dX9_init_79 rfl 0 rfl ?_
  refine n_iconst C (v := 2) dX9_init_80 (by decide) ?_
  refine n_newq C 5 (C' := RX8) (N' := 2) dX9_init_81 (by decide +kernel) (fun _ U => U.2.2.1) (fun _ => rfl) (by decide) (by decide) (by decide) (by decide) (by decide) (fun qp => ?_)
  refine n_putF C (a := h0) (ci := 9) (C' := RX9) (ref := RX9) (T := TX9) (N := 16) (kf := 8) (tyf := tyX9) (ty := .array (.object "ShadowFile$Version")) (v := .ref qp) (fs' := [.ref qD, .ref qV, .ref qN, .ref qC, .ref qP, .ref qs, .ref qr, .int 0, .ref qp, .null, .null, .null, .null, .null, .null, .int 0]) dX9_init_84 F_i9 tyX9_ok nmX9 rfl (by decide) (by decide +kernel) rfl rfl rfl rfl rfl rfl rfl (Nat.le_of_ble_eq_true rfl) rfl ?_
  refine n_perm C ((h0, .inr (9, [.ref qD, .ref qV, .ref qN, .ref qC, .ref qP, .ref qs, .ref qr, .int 0, .ref qp, .null, .null, .null, .null, .null, .null, .int 0])) :: (qs, .inl (dA 3, 3, .inr (.inr (.inr (.inr (fun _ => none)))))) :: (qp, .inl (dA 5, 2, .inr (.inr (.inr (.inr (fun _ => none)))))) :: (((((wD ++ wV) ++ wN) ++ wC) ++ wP) ++ [(qr, .inl (dA 0, (3, .inl (fun _ => 0))))])) (n_pq _ _ _ _) ?_
  refine n_aload C dX9_init_87 rfl 0 rfl ?_
  refine n_iconst C (v := 2) dX9_init_88 (by decide) ?_
  refine n_newa C 1 (a0 := (2, .inl (fun _ => 0))) (N' := 2) dX9_init_89 (by decide +kernel) rfl (fun _ => rfl) (fun _ => rfl) (by decide) (by decide) (by decide) (by decide) (by decide) (fun qu => ?_)
  show V _ _ _ _ (.ref qu :: .ref h0 :: []) ((h0, .inr (9, [.ref qD, .ref qV, .ref qN, .ref qC, .ref qP, .ref qs, .ref qr, .int 0, .ref qp, .null, .null, .null, .null, .null, .null, .int 0])) :: (qs, .inl (dA 3, 3, .inr (.inr (.inr (.inr (fun _ => none)))))) :: (qp, .inl (dA 5, 2, .inr (.inr (.inr (.inr (fun _ => none)))))) :: ((((((wD ++ wV) ++ wN) ++ wC) ++ wP) ++ [(qr, .inl (dA 0, (3, .inl (fun _ => 0))))]) ++ [(qu, .inl (dA 1, (2, .inl (fun _ => 0))))]))
  refine n_putF C (a := h0) (ci := 9) (C' := RX9) (ref := RX9) (T := TX9) (N := 16) (kf := 9) (tyf := tyX9) (ty := .array .boolean) (v := .ref qu) (fs' := [.ref qD, .ref qV, .ref qN, .ref qC, .ref qP, .ref qs, .ref qr, .int 0, .ref qp, .ref qu, .null, .null, .null, .null, .null, .int 0]) dX9_init_91 F_i9 tyX9_ok nmX9 rfl (by decide) (by decide +kernel) rfl rfl rfl rfl rfl rfl rfl (Nat.le_of_ble_eq_true rfl) rfl ?_
  refine n_aload C dX9_init_94 rfl 0 rfl ?_
  refine n_new C (ci := 2) (C' := RX2) (T := TX2) (N := 7) (fs := [.null, .int 0, .null, .null, .null, .null, .int 0]) (tyf := tyX2) dX9_init_95 F_i2 tyX2_ok (by decide +kernel) (by decide +kernel) (by decide +kernel) rfl (fun j hj => by rcases (show j = 0 ∨ j = 1 ∨ j = 2 ∨ j = 3 ∨ j = 4 ∨ j = 5 ∨ j = 6 by omega) with rfl | rfl | rfl | rfl | rfl | rfl | rfl <;> rfl) (by decide) (by decide) (fun qI => ?_)
  refine n_dup C dX9_init_98 ?_
  refine n_callN C (host := RX9) n_X2_init dX9_init_99 gX9_init_X2_init_n64 (by decide +kernel) (by decide +kernel) (by decide +kernel) rfl rfl ⟨(by decide), (by decide), (by decide +kernel)⟩ ⟨(Nat.le_of_ble_eq_true rfl), (Nat.le_of_ble_eq_true rfl)⟩ (Nat.le_of_ble_eq_true rfl) (by decide) (by decide) (fun wI hI => ?_)
  show V _ _ _ _ (.ref qI :: .ref h0 :: []) ((h0, .inr (9, [.ref qD, .ref qV, .ref qN, .ref qC, .ref qP, .ref qs, .ref qr, .int 0, .ref qp, .ref qu, .null, .null, .null, .null, .null, .int 0])) :: (qs, .inl (dA 3, 3, .inr (.inr (.inr (.inr (fun _ => none)))))) :: (qp, .inl (dA 5, 2, .inr (.inr (.inr (.inr (fun _ => none)))))) :: (((((((wD ++ wV) ++ wN) ++ wC) ++ wP) ++ [(qr, .inl (dA 0, (3, .inl (fun _ => 0))))]) ++ [(qu, .inl (dA 1, (2, .inl (fun _ => 0))))]) ++ wI))
  refine n_putF C (a := h0) (ci := 9) (C' := RX9) (ref := RX9) (T := TX9) (N := 16) (kf := 10) (tyf := tyX9) (ty := .object "ShadowFile$Input") (v := .ref qI) (fs' := [.ref qD, .ref qV, .ref qN, .ref qC, .ref qP, .ref qs, .ref qr, .int 0, .ref qp, .ref qu, .ref qI, .null, .null, .null, .null, .int 0]) dX9_init_102 F_i9 tyX9_ok nmX9 rfl (by decide) (by decide +kernel) rfl rfl rfl rfl rfl rfl rfl (Nat.le_of_ble_eq_true rfl) rfl ?_
  refine n_aload C dX9_init_105 rfl 0 rfl ?_
  refine n_new C (ci := 4) (C' := RX4) (T := TX4) (N := 3) (fs := [.null, .null, .int 0]) (tyf := tyX4) dX9_init_106 F_i4 tyX4_ok (by decide +kernel) (by decide +kernel) (by decide +kernel) rfl (fun j hj => by rcases (show j = 0 ∨ j = 1 ∨ j = 2 by omega) with rfl | rfl | rfl <;> rfl) (by decide) (by decide) (fun qO => ?_)
  refine n_dup C dX9_init_109 ?_
  refine n_callN C (host := RX9) n_X4_init dX9_init_110 gX9_init_X4_init_n71 (by decide +kernel) (by decide +kernel) (by decide +kernel) rfl rfl ⟨(by decide), (by decide), (by decide +kernel)⟩ ⟨(Nat.le_of_ble_eq_true rfl), (Nat.le_of_ble_eq_true rfl)⟩ (Nat.le_of_ble_eq_true rfl) (by decide) (by decide) (fun wO hO => ?_)
  show V _ _ _ _ (.ref qO :: .ref h0 :: []) ((h0, .inr (9, [.ref qD, .ref qV, .ref qN, .ref qC, .ref qP, .ref qs, .ref qr, .int 0, .ref qp, .ref qu, .ref qI, .null, .null, .null, .null, .int 0])) :: (qs, .inl (dA 3, 3, .inr (.inr (.inr (.inr (fun _ => none)))))) :: (qp, .inl (dA 5, 2, .inr (.inr (.inr (.inr (fun _ => none)))))) :: ((((((((wD ++ wV) ++ wN) ++ wC) ++ wP) ++ [(qr, .inl (dA 0, (3, .inl (fun _ => 0))))]) ++ [(qu, .inl (dA 1, (2, .inl (fun _ => 0))))]) ++ wI) ++ wO))
  refine n_putF C (a := h0) (ci := 9) (C' := RX9) (ref := RX9) (T := TX9) (N := 16) (kf := 11) (tyf := tyX9) (ty := .object "ShadowFile$Output") (v := .ref qO) (fs' := [.ref qD, .ref qV, .ref qN, .ref qC, .ref qP, .ref qs, .ref qr, .int 0, .ref qp, .ref qu, .ref qI, .ref qO, .null, .null, .null, .int 0]) dX9_init_113 F_i9 tyX9_ok nmX9 rfl (by decide) (by decide +kernel) rfl rfl rfl rfl rfl rfl rfl (Nat.le_of_ble_eq_true rfl) rfl ?_
  refine n_aload C dX9_init_116 rfl 0 rfl ?_
  refine n_new C (ci := 3) (C' := RX3) (T := TX3) (N := 2) (fs := [.null, .int 0]) (tyf := tyX3) dX9_init_117 F_i3 tyX3_ok (by decide +kernel) (by decide +kernel) (by decide +kernel) rfl (fun j hj => by rcases (show j = 0 ∨ j = 1 by omega) with rfl | rfl <;> rfl) (by decide) (by decide) (fun qL => ?_)
  refine n_dup C dX9_init_120 ?_
  refine n_callN C (host := RX9) n_X3_init dX9_init_121 gX9_init_X3_init_n78 (by decide +kernel) (by decide +kernel) (by decide +kernel) rfl rfl ⟨(by decide), (by decide), (by decide +kernel)⟩ ⟨(Nat.le_of_ble_eq_true rfl), (Nat.le_of_ble_eq_true rfl)⟩ (Nat.le_of_ble_eq_true rfl) (by decide) (by decide) (fun wL hL => ?_)
  show V _ _ _ _ (.ref qL :: .ref h0 :: []) ((h0, .inr (9, [.ref qD, .ref qV, .ref qN, .ref qC, .ref qP, .ref qs, .ref qr, .int 0, .ref qp, .ref qu, .ref qI, .ref qO, .null, .null, .null, .int 0])) :: (qs, .inl (dA 3, 3, .inr (.inr (.inr (.inr (fun _ => none)))))) :: (qp, .inl (dA 5, 2, .inr (.inr (.inr (.inr (fun _ => none)))))) :: (((((((((wD ++ wV) ++ wN) ++ wC) ++ wP) ++ [(qr, .inl (dA 0, (3, .inl (fun _ => 0))))]) ++ [(qu, .inl (dA 1, (2, .inl (fun _ => 0))))]) ++ wI) ++ wO) ++ wL))
  refine n_putF C (a := h0) (ci := 9) (C' := RX9) (ref := RX9) (T := TX9) (N := 16) (kf := 12) (tyf := tyX9) (ty := .object "ShadowFile$Log") (v := .ref qL) (fs' := [.ref qD, .ref qV, .ref qN, .ref qC, .ref qP, .ref qs, .ref qr, .int 0, .ref qp, .ref qu, .ref qI, .ref qO, .ref qL, .null, .null, .int 0]) dX9_init_124 F_i9 tyX9_ok nmX9 rfl (by decide) (by decide +kernel) rfl rfl rfl rfl rfl rfl rfl (Nat.le_of_ble_eq_true rfl) rfl ?_
  refine n_aload C dX9_init_127 rfl 0 rfl ?_
  refine n_new C (ci := 6) (C' := RX6) (T := TX6) (N := 4) (fs := [.null, .null, .null, .long 0]) (tyf := tyX6) dX9_init_128 F_i6 tyX6_ok (by decide +kernel) (by decide +kernel) (by decide +kernel) rfl (fun j hj => by rcases (show j = 0 ∨ j = 1 ∨ j = 2 ∨ j = 3 by omega) with rfl | rfl | rfl | rfl <;> rfl) (by decide) (by decide) (fun qF => ?_)
  refine n_dup C dX9_init_131 ?_
  refine n_callN C (host := RX9) n_X6_init dX9_init_132 gX9_init_X6_init_n85 (by decide +kernel) (by decide +kernel) (by decide +kernel) rfl rfl ⟨(by decide), (by decide), (by decide +kernel)⟩ ⟨(Nat.le_of_ble_eq_true rfl), (Nat.le_of_ble_eq_true rfl)⟩ (Nat.le_of_ble_eq_true rfl) (by decide) (by decide) (fun wF hF => ?_)
  show V _ _ _ _ (.ref qF :: .ref h0 :: []) ((h0, .inr (9, [.ref qD, .ref qV, .ref qN, .ref qC, .ref qP, .ref qs, .ref qr, .int 0, .ref qp, .ref qu, .ref qI, .ref qO, .ref qL, .null, .null, .int 0])) :: (qs, .inl (dA 3, 3, .inr (.inr (.inr (.inr (fun _ => none)))))) :: (qp, .inl (dA 5, 2, .inr (.inr (.inr (.inr (fun _ => none)))))) :: ((((((((((wD ++ wV) ++ wN) ++ wC) ++ wP) ++ [(qr, .inl (dA 0, (3, .inl (fun _ => 0))))]) ++ [(qu, .inl (dA 1, (2, .inl (fun _ => 0))))]) ++ wI) ++ wO) ++ wL) ++ wF))
  refine n_putF C (a := h0) (ci := 9) (C' := RX9) (ref := RX9) (T := TX9) (N := 16) (kf := 13) (tyf := tyX9) (ty := .object "ShadowFile$Salvage") (v := .ref qF) (fs' := [.ref qD, .ref qV, .ref qN, .ref qC, .ref qP, .ref qs, .ref qr, .int 0, .ref qp, .ref qu, .ref qI, .ref qO, .ref qL, .ref qF, .null, .int 0]) dX9_init_135 F_i9 tyX9_ok nmX9 rfl (by decide) (by decide +kernel) rfl rfl rfl rfl rfl rfl rfl (Nat.le_of_ble_eq_true rfl) rfl ?_
  refine n_aload C dX9_init_138 rfl 0 rfl ?_
  refine n_bipush C (v := 8) dX9_init_139 (by decide) ?_
  refine n_newa C 0 (a0 := (8, .inl (fun _ => 0))) (N' := 8) dX9_init_141 (by decide +kernel) rfl (fun _ => rfl) (fun _ => rfl) (by decide) (by decide) (by decide) (by decide) (by decide) (fun qc => ?_)
  show V _ _ _ _ (.ref qc :: .ref h0 :: []) ((h0, .inr (9, [.ref qD, .ref qV, .ref qN, .ref qC, .ref qP, .ref qs, .ref qr, .int 0, .ref qp, .ref qu, .ref qI, .ref qO, .ref qL, .ref qF, .null, .int 0])) :: (qs, .inl (dA 3, 3, .inr (.inr (.inr (.inr (fun _ => none)))))) :: (qp, .inl (dA 5, 2, .inr (.inr (.inr (.inr (fun _ => none)))))) :: (((((((((((wD ++ wV) ++ wN) ++ wC) ++ wP) ++ [(qr, .inl (dA 0, (3, .inl (fun _ => 0))))]) ++ [(qu, .inl (dA 1, (2, .inl (fun _ => 0))))]) ++ wI) ++ wO) ++ wL) ++ wF) ++ [(qc, .inl (dA 0, (8, .inl (fun _ => 0))))]))
  refine n_putF C (a := h0) (ci := 9) (C' := RX9) (ref := RX9) (T := TX9) (N := 16) (kf := 14) (tyf := tyX9) (ty := .array .int) (v := .ref qc) (fs' := [.ref qD, .ref qV, .ref qN, .ref qC, .ref qP, .ref qs, .ref qr, .int 0, .ref qp, .ref qu, .ref qI, .ref qO, .ref qL, .ref qF, .ref qc, .int 0]) dX9_init_143 F_i9 tyX9_ok nmX9 rfl (by decide) (by decide +kernel) rfl rfl rfl rfl rfl rfl rfl (Nat.le_of_ble_eq_true rfl) rfl ?_
  refine n_aload C dX9_init_146 rfl 0 rfl ?_
  refine n_iconst C (v := 0) dX9_init_147 (by decide) ?_
  refine n_put C (a := h0) (ci := 9) (C' := RX9) (ref := RX9) (T := TX9) (N := 16) (kf := 15) (tyf := tyX9) (ty := .boolean) (v := .int 0) (fs' := [.ref qD, .ref qV, .ref qN, .ref qC, .ref qP, .ref qs, .ref qr, .int 0, .ref qp, .ref qu, .ref qI, .ref qO, .ref qL, .ref qF, .ref qc, .int 0]) dX9_init_148 F_i9 tyX9_ok nmX9 rfl (by decide) (by decide +kernel) rfl rfl rfl rfl rfl (Nat.le_of_ble_eq_true rfl) rfl ?_
  refine n_iconst C (v := 0) dX9_init_151 (by decide) ?_
  refine n_istore C (lv' := [(1, .int 0), (0, .ref h0)]) dX9_init_152 rfl (by decide) rfl ?_
  refine n_iload C dX9_init_153 rfl 0 rfl ?_
  refine n_iconst C (v := 3) dX9_init_154 (by decide) ?_
  refine n_geF C (tgt := 177) dX9_init_155 (by decide) (by decide) ?_
  refine n_aload C dX9_init_158 rfl 1 rfl ?_
  refine n_get C (ci := 9) (C' := RX9) (ref := RX9) (T := TX9) (N := 16) (kf := 5) (fs := [.ref qD, .ref qV, .ref qN, .ref qC, .ref qP, .ref qs, .ref qr, .int 0, .ref qp, .ref qu, .ref qI, .ref qO, .ref qL, .ref qF, .ref qc, .int 0]) (v := .ref qs) dX9_init_159 F_i9 rfl (by decide) (by decide +kernel) rfl rfl ?_
  refine n_iload C dX9_init_162 rfl 0 rfl ?_
  refine n_new C (ci := 7) (C' := RX7) (T := TX7) (N := 4) (fs := [.null, .null, .int 0, .int 0]) (tyf := tyX7) dX9_init_163 F_i7 tyX7_ok (by decide +kernel) (by decide +kernel) (by decide +kernel) rfl (fun j hj => by rcases (show j = 0 ∨ j = 1 ∨ j = 2 ∨ j = 3 by omega) with rfl | rfl | rfl | rfl <;> rfl) (by decide) (by decide) (fun qX => ?_)
  refine n_dup C dX9_init_166 ?_
  refine n_callI C n_X7_init dX9_init_167 gX9_init_X7_init (by decide +kernel) (by decide +kernel) (by decide +kernel) rfl rfl ⟨(by decide), (by decide), (by decide +kernel)⟩ ⟨(Nat.le_of_ble_eq_true rfl), (Nat.le_of_ble_eq_true rfl)⟩ (Nat.le_of_ble_eq_true rfl) (by decide) (by decide) (fun wX hX => ?_)
  obtain ⟨uX, vX, aX, bX, cX, sX, tX, yX, zX, eX, hsX, htX, hyX, hzX⟩ := id hX
  refine n_perm C ((h0, .inr (9, [.ref qD, .ref qV, .ref qN, .ref qC, .ref qP, .ref qs, .ref qr, .int 0, .ref qp, .ref qu, .ref qI, .ref qO, .ref qL, .ref qF, .ref qc, .int 0])) :: (qs, .inl (dA 3, 3, .inr (.inr (.inr (.inr (fun _ => none)))))) :: (qX, .inr (7, [.ref uX, .ref vX, .int 0, .int 0])) :: (((qp, .inl (dA 5, 2, .inr (.inr (.inr (.inr (fun _ => none)))))) :: (((((((((((wD ++ wV) ++ wN) ++ wC) ++ wP) ++ [(qr, .inl (dA 0, (3, .inl (fun _ => 0))))]) ++ [(qu, .inl (dA 1, (2, .inl (fun _ => 0))))]) ++ wI) ++ wO) ++ wL) ++ wF) ++ [(qc, .inl (dA 0, (8, .inl (fun _ => 0))))])) ++ ((vX, .inl (dA 4, 3, .inr (.inr (.inr (.inr (va_up (va_up (va_up (fun _ => none) 0 (some aX)) 1 (some bX)) 2 (some cX))))))) :: (((sX ++ tX) ++ yX) ++ zX)))) (by rw [eX]; exact n_pm _ _ _ _ _) ?_
  refine n_ast C 3 (ci := 7) (r := (RX7, TX7, 4)) (j := 0) dX9_init_170 (fun _ => rfl) rfl (by unfold vp_in; decide) (by decide) ?_
  refine n_perm C ((h0, .inr (9, [.ref qD, .ref qV, .ref qN, .ref qC, .ref qP, .ref qs, .ref qr, .int 0, .ref qp, .ref qu, .ref qI, .ref qO, .ref qL, .ref qF, .ref qc, .int 0])) :: (qs, .inl (dA 3, 3, .inr (.inr (.inr (.inr (va_up (fun _ => none) 0 (some qX))))))) :: (((qp, .inl (dA 5, 2, .inr (.inr (.inr (.inr (fun _ => none)))))) :: (((((((((((wD ++ wV) ++ wN) ++ wC) ++ wP) ++ [(qr, .inl (dA 0, (3, .inl (fun _ => 0))))]) ++ [(qu, .inl (dA 1, (2, .inl (fun _ => 0))))]) ++ wI) ++ wO) ++ wL) ++ wF) ++ [(qc, .inl (dA 0, (8, .inl (fun _ => 0))))])) ++ wX)) (by rw [eX]; exact n_pb _ _ _ _ _) ?_
  refine n_iinc C (v := 1) (lv' := [(1, .int 1), (0, .ref h0)]) dX9_init_171 0 rfl (by decide) (by decide) rfl ?_
  refine n_goto C (tgt := 153) dX9_init_174 (by decide) ?_
  refine n_iload C dX9_init_153 rfl 0 rfl ?_
  refine n_iconst C (v := 3) dX9_init_154 (by decide) ?_
  refine n_geF C (tgt := 177) dX9_init_155 (by decide) (by decide) ?_
  refine n_aload C dX9_init_158 rfl 1 rfl ?_
  refine n_get C (ci := 9) (C' := RX9) (ref := RX9) (T := TX9) (N := 16) (kf := 5) (fs := [.ref qD, .ref qV, .ref qN, .ref qC, .ref qP, .ref qs, .ref qr, .int 0, .ref qp, .ref qu, .ref qI, .ref qO, .ref qL, .ref qF, .ref qc, .int 0]) (v := .ref qs) dX9_init_159 F_i9 rfl (by decide) (by decide +kernel) rfl rfl ?_
  refine n_iload C dX9_init_162 rfl 0 rfl ?_
  refine n_new C (ci := 7) (C' := RX7) (T := TX7) (N := 4) (fs := [.null, .null, .int 0, .int 0]) (tyf := tyX7) dX9_init_163 F_i7 tyX7_ok (by decide +kernel) (by decide +kernel) (by decide +kernel) rfl (fun j hj => by rcases (show j = 0 ∨ j = 1 ∨ j = 2 ∨ j = 3 by omega) with rfl | rfl | rfl | rfl <;> rfl) (by decide) (by decide) (fun qY => ?_)
  refine n_dup C dX9_init_166 ?_
  refine n_callI C n_X7_init dX9_init_167 gX9_init_X7_init (by decide +kernel) (by decide +kernel) (by decide +kernel) rfl rfl ⟨(by decide), (by decide), (by decide +kernel)⟩ ⟨(Nat.le_of_ble_eq_true rfl), (Nat.le_of_ble_eq_true rfl)⟩ (Nat.le_of_ble_eq_true rfl) (by decide) (by decide) (fun wY hY => ?_)
  obtain ⟨uY, vY, aY, bY, cY, sY, tY, yY, zY, eY, hsY, htY, hyY, hzY⟩ := id hY
  refine n_perm C ((h0, .inr (9, [.ref qD, .ref qV, .ref qN, .ref qC, .ref qP, .ref qs, .ref qr, .int 0, .ref qp, .ref qu, .ref qI, .ref qO, .ref qL, .ref qF, .ref qc, .int 0])) :: (qs, .inl (dA 3, 3, .inr (.inr (.inr (.inr (va_up (fun _ => none) 0 (some qX))))))) :: (qY, .inr (7, [.ref uY, .ref vY, .int 0, .int 0])) :: ((((qp, .inl (dA 5, 2, .inr (.inr (.inr (.inr (fun _ => none)))))) :: (((((((((((wD ++ wV) ++ wN) ++ wC) ++ wP) ++ [(qr, .inl (dA 0, (3, .inl (fun _ => 0))))]) ++ [(qu, .inl (dA 1, (2, .inl (fun _ => 0))))]) ++ wI) ++ wO) ++ wL) ++ wF) ++ [(qc, .inl (dA 0, (8, .inl (fun _ => 0))))])) ++ wX) ++ ((vY, .inl (dA 4, 3, .inr (.inr (.inr (.inr (va_up (va_up (va_up (fun _ => none) 0 (some aY)) 1 (some bY)) 2 (some cY))))))) :: (((sY ++ tY) ++ yY) ++ zY)))) (by rw [eY]; exact n_pm _ _ _ _ _) ?_
  refine n_ast C 3 (ci := 7) (r := (RX7, TX7, 4)) (j := 1) dX9_init_170 (fun _ => rfl) rfl (by unfold vp_in; decide) (by decide) ?_
  refine n_perm C ((h0, .inr (9, [.ref qD, .ref qV, .ref qN, .ref qC, .ref qP, .ref qs, .ref qr, .int 0, .ref qp, .ref qu, .ref qI, .ref qO, .ref qL, .ref qF, .ref qc, .int 0])) :: (qs, .inl (dA 3, 3, .inr (.inr (.inr (.inr (va_up (va_up (fun _ => none) 0 (some qX)) 1 (some qY))))))) :: ((((qp, .inl (dA 5, 2, .inr (.inr (.inr (.inr (fun _ => none)))))) :: (((((((((((wD ++ wV) ++ wN) ++ wC) ++ wP) ++ [(qr, .inl (dA 0, (3, .inl (fun _ => 0))))]) ++ [(qu, .inl (dA 1, (2, .inl (fun _ => 0))))]) ++ wI) ++ wO) ++ wL) ++ wF) ++ [(qc, .inl (dA 0, (8, .inl (fun _ => 0))))])) ++ wX) ++ wY)) (by rw [eY]; exact n_pb _ _ _ _ _) ?_
  refine n_iinc C (v := 2) (lv' := [(1, .int 2), (0, .ref h0)]) dX9_init_171 0 rfl (by decide) (by decide) rfl ?_
  refine n_goto C (tgt := 153) dX9_init_174 (by decide) ?_
  refine n_iload C dX9_init_153 rfl 0 rfl ?_
  refine n_iconst C (v := 3) dX9_init_154 (by decide) ?_
  refine n_geF C (tgt := 177) dX9_init_155 (by decide) (by decide) ?_
  refine n_aload C dX9_init_158 rfl 1 rfl ?_
  refine n_get C (ci := 9) (C' := RX9) (ref := RX9) (T := TX9) (N := 16) (kf := 5) (fs := [.ref qD, .ref qV, .ref qN, .ref qC, .ref qP, .ref qs, .ref qr, .int 0, .ref qp, .ref qu, .ref qI, .ref qO, .ref qL, .ref qF, .ref qc, .int 0]) (v := .ref qs) dX9_init_159 F_i9 rfl (by decide) (by decide +kernel) rfl rfl ?_
  refine n_iload C dX9_init_162 rfl 0 rfl ?_
  refine n_new C (ci := 7) (C' := RX7) (T := TX7) (N := 4) (fs := [.null, .null, .int 0, .int 0]) (tyf := tyX7) dX9_init_163 F_i7 tyX7_ok (by decide +kernel) (by decide +kernel) (by decide +kernel) rfl (fun j hj => by rcases (show j = 0 ∨ j = 1 ∨ j = 2 ∨ j = 3 by omega) with rfl | rfl | rfl | rfl <;> rfl) (by decide) (by decide) (fun qZ => ?_)
  refine n_dup C dX9_init_166 ?_
  refine n_callI C n_X7_init dX9_init_167 gX9_init_X7_init (by decide +kernel) (by decide +kernel) (by decide +kernel) rfl rfl ⟨(by decide), (by decide), (by decide +kernel)⟩ ⟨(Nat.le_of_ble_eq_true rfl), (Nat.le_of_ble_eq_true rfl)⟩ (Nat.le_of_ble_eq_true rfl) (by decide) (by decide) (fun wZ hZ => ?_)
  obtain ⟨uZ, vZ, aZ, bZ, cZ, sZ, tZ, yZ, zZ, eZ, hsZ, htZ, hyZ, hzZ⟩ := id hZ
  refine n_perm C ((h0, .inr (9, [.ref qD, .ref qV, .ref qN, .ref qC, .ref qP, .ref qs, .ref qr, .int 0, .ref qp, .ref qu, .ref qI, .ref qO, .ref qL, .ref qF, .ref qc, .int 0])) :: (qs, .inl (dA 3, 3, .inr (.inr (.inr (.inr (va_up (va_up (fun _ => none) 0 (some qX)) 1 (some qY))))))) :: (qZ, .inr (7, [.ref uZ, .ref vZ, .int 0, .int 0])) :: (((((qp, .inl (dA 5, 2, .inr (.inr (.inr (.inr (fun _ => none)))))) :: (((((((((((wD ++ wV) ++ wN) ++ wC) ++ wP) ++ [(qr, .inl (dA 0, (3, .inl (fun _ => 0))))]) ++ [(qu, .inl (dA 1, (2, .inl (fun _ => 0))))]) ++ wI) ++ wO) ++ wL) ++ wF) ++ [(qc, .inl (dA 0, (8, .inl (fun _ => 0))))])) ++ wX) ++ wY) ++ ((vZ, .inl (dA 4, 3, .inr (.inr (.inr (.inr (va_up (va_up (va_up (fun _ => none) 0 (some aZ)) 1 (some bZ)) 2 (some cZ))))))) :: (((sZ ++ tZ) ++ yZ) ++ zZ)))) (by rw [eZ]; exact n_pm _ _ _ _ _) ?_
  refine n_ast C 3 (ci := 7) (r := (RX7, TX7, 4)) (j := 2) dX9_init_170 (fun _ => rfl) rfl (by unfold vp_in; decide) (by decide) ?_
  refine n_perm C ((h0, .inr (9, [.ref qD, .ref qV, .ref qN, .ref qC, .ref qP, .ref qs, .ref qr, .int 0, .ref qp, .ref qu, .ref qI, .ref qO, .ref qL, .ref qF, .ref qc, .int 0])) :: (qs, .inl (dA 3, 3, .inr (.inr (.inr (.inr (va_up (va_up (va_up (fun _ => none) 0 (some qX)) 1 (some qY)) 2 (some qZ))))))) :: (((((qp, .inl (dA 5, 2, .inr (.inr (.inr (.inr (fun _ => none)))))) :: (((((((((((wD ++ wV) ++ wN) ++ wC) ++ wP) ++ [(qr, .inl (dA 0, (3, .inl (fun _ => 0))))]) ++ [(qu, .inl (dA 1, (2, .inl (fun _ => 0))))]) ++ wI) ++ wO) ++ wL) ++ wF) ++ [(qc, .inl (dA 0, (8, .inl (fun _ => 0))))])) ++ wX) ++ wY) ++ wZ)) (by rw [eZ]; exact n_pb _ _ _ _ _) ?_
  refine n_iinc C (v := 3) (lv' := [(1, .int 3), (0, .ref h0)]) dX9_init_171 0 rfl (by decide) (by decide) rfl ?_
  refine n_goto C (tgt := 153) dX9_init_174 (by decide) ?_
  refine n_iload C dX9_init_153 rfl 0 rfl ?_
  refine n_iconst C (v := 3) dX9_init_154 (by decide) ?_
  refine n_geT C (tgt := 177) dX9_init_155 (by decide) (by decide) ?_
  refine n_iconst C (v := 0) dX9_init_177 (by decide) ?_
  refine n_istore C (lv' := [(1, .int 0), (0, .ref h0)]) dX9_init_178 rfl (by decide) rfl ?_
  refine n_perm C ((h0, .inr (9, [.ref qD, .ref qV, .ref qN, .ref qC, .ref qP, .ref qs, .ref qr, .int 0, .ref qp, .ref qu, .ref qI, .ref qO, .ref qL, .ref qF, .ref qc, .int 0])) :: (qp, .inl (dA 5, 2, .inr (.inr (.inr (.inr (fun _ => none)))))) :: ((qs, .inl (dA 3, 3, .inr (.inr (.inr (.inr (va_up (va_up (va_up (fun _ => none) 0 (some qX)) 1 (some qY)) 2 (some qZ))))))) :: ((((((((((((((wD ++ wV) ++ wN) ++ wC) ++ wP) ++ [(qr, .inl (dA 0, (3, .inl (fun _ => 0))))]) ++ [(qu, .inl (dA 1, (2, .inl (fun _ => 0))))]) ++ wI) ++ wO) ++ wL) ++ wF) ++ [(qc, .inl (dA 0, (8, .inl (fun _ => 0))))]) ++ wX) ++ wY) ++ wZ))) (n_ps _ _ _ _) ?_
  refine n_iload C dX9_init_179 rfl 0 rfl ?_
  refine n_iconst C (v := 2) dX9_init_180 (by decide) ?_
  refine n_geF C (tgt := 203) dX9_init_181 (by decide) (by decide) ?_
  refine n_aload C dX9_init_184 rfl 1 rfl ?_
  refine n_get C (ci := 9) (C' := RX9) (ref := RX9) (T := TX9) (N := 16) (kf := 8) (fs := [.ref qD, .ref qV, .ref qN, .ref qC, .ref qP, .ref qs, .ref qr, .int 0, .ref qp, .ref qu, .ref qI, .ref qO, .ref qL, .ref qF, .ref qc, .int 0]) (v := .ref qp) dX9_init_185 F_i9 rfl (by decide) (by decide +kernel) rfl rfl ?_
  refine n_iload C dX9_init_188 rfl 0 rfl ?_
  refine n_new C (ci := 8) (C' := RX8) (T := TX8) (N := 6) (fs := [.null, .null, .long 0, .int 0, .int 0, .int 0]) (tyf := tyX8) dX9_init_189 F_i8 tyX8_ok (by decide +kernel) (by decide +kernel) (by decide +kernel) rfl (fun j hj => by rcases (show j = 0 ∨ j = 1 ∨ j = 2 ∨ j = 3 ∨ j = 4 ∨ j = 5 by omega) with rfl | rfl | rfl | rfl | rfl | rfl <;> rfl) (by decide) (by decide) (fun qG => ?_)
  refine n_dup C dX9_init_192 ?_
  refine n_callN C (host := RX9) n_X8_init dX9_init_193 gX9_init_X8_init_n18 (by decide +kernel) (by decide +kernel) (by decide +kernel) rfl rfl ⟨(by decide), (by decide), (by decide +kernel)⟩ ⟨(Nat.le_of_ble_eq_true rfl), (Nat.le_of_ble_eq_true rfl)⟩ (Nat.le_of_ble_eq_true rfl) (by decide) (by decide) (fun wG hG => ?_)
  obtain ⟨uG, vG, eG⟩ := id hG
  refine n_perm C ((h0, .inr (9, [.ref qD, .ref qV, .ref qN, .ref qC, .ref qP, .ref qs, .ref qr, .int 0, .ref qp, .ref qu, .ref qI, .ref qO, .ref qL, .ref qF, .ref qc, .int 0])) :: (qp, .inl (dA 5, 2, .inr (.inr (.inr (.inr (fun _ => none)))))) :: (qG, .inr (8, [.ref uG, .ref vG, .long 0, .int 0, .int 0, .int 2])) :: (((qs, .inl (dA 3, 3, .inr (.inr (.inr (.inr (va_up (va_up (va_up (fun _ => none) 0 (some qX)) 1 (some qY)) 2 (some qZ))))))) :: ((((((((((((((wD ++ wV) ++ wN) ++ wC) ++ wP) ++ [(qr, .inl (dA 0, (3, .inl (fun _ => 0))))]) ++ [(qu, .inl (dA 1, (2, .inl (fun _ => 0))))]) ++ wI) ++ wO) ++ wL) ++ wF) ++ [(qc, .inl (dA 0, (8, .inl (fun _ => 0))))]) ++ wX) ++ wY) ++ wZ)) ++ [(uG, .inl (dA 0, (8, .inl (fun _ => 0)))), (vG, .inl (dA 0, (64, .inl (fun _ => 0))))])) (by rw [eG]; exact n_pm _ _ _ _ _) ?_
  refine n_ast C 5 (ci := 8) (r := (RX8, TX8, 6)) (j := 0) dX9_init_196 (fun _ => rfl) rfl (by unfold vp_in; decide) (by decide) ?_
  refine n_perm C ((h0, .inr (9, [.ref qD, .ref qV, .ref qN, .ref qC, .ref qP, .ref qs, .ref qr, .int 0, .ref qp, .ref qu, .ref qI, .ref qO, .ref qL, .ref qF, .ref qc, .int 0])) :: (qp, .inl (dA 5, 2, .inr (.inr (.inr (.inr (va_up (fun _ => none) 0 (some qG))))))) :: (((qs, .inl (dA 3, 3, .inr (.inr (.inr (.inr (va_up (va_up (va_up (fun _ => none) 0 (some qX)) 1 (some qY)) 2 (some qZ))))))) :: ((((((((((((((wD ++ wV) ++ wN) ++ wC) ++ wP) ++ [(qr, .inl (dA 0, (3, .inl (fun _ => 0))))]) ++ [(qu, .inl (dA 1, (2, .inl (fun _ => 0))))]) ++ wI) ++ wO) ++ wL) ++ wF) ++ [(qc, .inl (dA 0, (8, .inl (fun _ => 0))))]) ++ wX) ++ wY) ++ wZ)) ++ wG)) (by rw [eG]; exact n_pb _ _ _ _ _) ?_
  refine n_iinc C (v := 1) (lv' := [(1, .int 1), (0, .ref h0)]) dX9_init_197 0 rfl (by decide) (by decide) rfl ?_
  refine n_goto C (tgt := 179) dX9_init_200 (by decide) ?_
  refine n_iload C dX9_init_179 rfl 0 rfl ?_
  refine n_iconst C (v := 2) dX9_init_180 (by decide) ?_
  refine n_geF C (tgt := 203) dX9_init_181 (by decide) (by decide) ?_
  refine n_aload C dX9_init_184 rfl 1 rfl ?_
  refine n_get C (ci := 9) (C' := RX9) (ref := RX9) (T := TX9) (N := 16) (kf := 8) (fs := [.ref qD, .ref qV, .ref qN, .ref qC, .ref qP, .ref qs, .ref qr, .int 0, .ref qp, .ref qu, .ref qI, .ref qO, .ref qL, .ref qF, .ref qc, .int 0]) (v := .ref qp) dX9_init_185 F_i9 rfl (by decide) (by decide +kernel) rfl rfl ?_
  refine n_iload C dX9_init_188 rfl 0 rfl ?_
  refine n_new C (ci := 8) (C' := RX8) (T := TX8) (N := 6) (fs := [.null, .null, .long 0, .int 0, .int 0, .int 0]) (tyf := tyX8) dX9_init_189 F_i8 tyX8_ok (by decide +kernel) (by decide +kernel) (by decide +kernel) rfl (fun j hj => by rcases (show j = 0 ∨ j = 1 ∨ j = 2 ∨ j = 3 ∨ j = 4 ∨ j = 5 by omega) with rfl | rfl | rfl | rfl | rfl | rfl <;> rfl) (by decide) (by decide) (fun qH => ?_)
  refine n_dup C dX9_init_192 ?_
  refine n_callN C (host := RX9) n_X8_init dX9_init_193 gX9_init_X8_init_n18 (by decide +kernel) (by decide +kernel) (by decide +kernel) rfl rfl ⟨(by decide), (by decide), (by decide +kernel)⟩ ⟨(Nat.le_of_ble_eq_true rfl), (Nat.le_of_ble_eq_true rfl)⟩ (Nat.le_of_ble_eq_true rfl) (by decide) (by decide) (fun wH hH => ?_)
  obtain ⟨uH, vH, eH⟩ := id hH
  refine n_perm C ((h0, .inr (9, [.ref qD, .ref qV, .ref qN, .ref qC, .ref qP, .ref qs, .ref qr, .int 0, .ref qp, .ref qu, .ref qI, .ref qO, .ref qL, .ref qF, .ref qc, .int 0])) :: (qp, .inl (dA 5, 2, .inr (.inr (.inr (.inr (va_up (fun _ => none) 0 (some qG))))))) :: (qH, .inr (8, [.ref uH, .ref vH, .long 0, .int 0, .int 0, .int 2])) :: ((((qs, .inl (dA 3, 3, .inr (.inr (.inr (.inr (va_up (va_up (va_up (fun _ => none) 0 (some qX)) 1 (some qY)) 2 (some qZ))))))) :: ((((((((((((((wD ++ wV) ++ wN) ++ wC) ++ wP) ++ [(qr, .inl (dA 0, (3, .inl (fun _ => 0))))]) ++ [(qu, .inl (dA 1, (2, .inl (fun _ => 0))))]) ++ wI) ++ wO) ++ wL) ++ wF) ++ [(qc, .inl (dA 0, (8, .inl (fun _ => 0))))]) ++ wX) ++ wY) ++ wZ)) ++ wG) ++ [(uH, .inl (dA 0, (8, .inl (fun _ => 0)))), (vH, .inl (dA 0, (64, .inl (fun _ => 0))))])) (by rw [eH]; exact n_pm _ _ _ _ _) ?_
  refine n_ast C 5 (ci := 8) (r := (RX8, TX8, 6)) (j := 1) dX9_init_196 (fun _ => rfl) rfl (by unfold vp_in; decide) (by decide) ?_
  refine n_perm C ((h0, .inr (9, [.ref qD, .ref qV, .ref qN, .ref qC, .ref qP, .ref qs, .ref qr, .int 0, .ref qp, .ref qu, .ref qI, .ref qO, .ref qL, .ref qF, .ref qc, .int 0])) :: (qp, .inl (dA 5, 2, .inr (.inr (.inr (.inr (va_up (va_up (fun _ => none) 0 (some qG)) 1 (some qH))))))) :: ((((qs, .inl (dA 3, 3, .inr (.inr (.inr (.inr (va_up (va_up (va_up (fun _ => none) 0 (some qX)) 1 (some qY)) 2 (some qZ))))))) :: ((((((((((((((wD ++ wV) ++ wN) ++ wC) ++ wP) ++ [(qr, .inl (dA 0, (3, .inl (fun _ => 0))))]) ++ [(qu, .inl (dA 1, (2, .inl (fun _ => 0))))]) ++ wI) ++ wO) ++ wL) ++ wF) ++ [(qc, .inl (dA 0, (8, .inl (fun _ => 0))))]) ++ wX) ++ wY) ++ wZ)) ++ wG) ++ wH)) (by rw [eH]; exact n_pb _ _ _ _ _) ?_
  refine n_iinc C (v := 2) (lv' := [(1, .int 2), (0, .ref h0)]) dX9_init_197 0 rfl (by decide) (by decide) rfl ?_
  refine n_goto C (tgt := 179) dX9_init_200 (by decide) ?_
  refine n_iload C dX9_init_179 rfl 0 rfl ?_
  refine n_iconst C (v := 2) dX9_init_180 (by decide) ?_
  refine n_geT C (tgt := 203) dX9_init_181 (by decide) (by decide) ?_
  refine n_aload C dX9_init_203 rfl 1 rfl ?_
  obtain ⟨q9, r9, q19, eD⟩ := id hD
  obtain ⟨uV, vV, eV⟩ := id hV
  obtain ⟨uN, vN, eN⟩ := id hN
  obtain ⟨uC, eC⟩ := id hC
  have eP := id hP
  obtain ⟨i1, i2, i3, i4, i5, eI⟩ := id hI
  obtain ⟨o1, o2, eO⟩ := id hO
  obtain ⟨l1, rl, eL⟩ := id hL
  obtain ⟨f1, f2, f3, eF⟩ := id hF
  obtain ⟨ssX, esX⟩ := id hsX
  obtain ⟨ttX, etX⟩ := id htX
  obtain ⟨yyX, eyX⟩ := id hyX
  obtain ⟨zzX, ezX⟩ := id hzX
  obtain ⟨ssY, esY⟩ := id hsY
  obtain ⟨ttY, etY⟩ := id htY
  obtain ⟨yyY, eyY⟩ := id hyY
  obtain ⟨zzY, ezY⟩ := id hzY
  obtain ⟨ssZ, esZ⟩ := id hsZ
  obtain ⟨ttZ, etZ⟩ := id htZ
  obtain ⟨yyZ, eyZ⟩ := id hyZ
  obtain ⟨zzZ, ezZ⟩ := id hzZ
  obtain ⟨ad, had⟩ : ∃ ad, ad = n_ad [h0, qD, q9, q19, r9 0, r9 1, r9 2, r9 3, r9 4, r9 5, r9 6, r9 7, r9 8, r9 9, r9 10, r9 11, r9 12, r9 13, r9 14, r9 15, r9 16, r9 17, r9 18, r9 19, r9 20, r9 21, r9 22, r9 23, r9 24, r9 25, r9 26, r9 27, r9 28, r9 29, r9 30, r9 31, qV, uV, vV, qN, uN, vN, qG, uG, vG, qH, uH, vH, qp, qu, qC, uC, qP, qs, qX, uX, ssX, vX, aX, ttX, bX, yyX, cX, zzX, qY, uY, ssY, vY, aY, ttY, bY, yyY, cY, zzY, qZ, uZ, ssZ, vZ, aZ, ttZ, bZ, yyZ, cZ, zzZ, qr, qI, i1, i2, i3, i4, i5, qO, o1, o2, qL, l1, rl 0, rl 1, rl 2, rl 3, rl 4, rl 5, rl 6, rl 7, qF, f1, f2, f3, qc] := ⟨_, rfl⟩
  refine n_perm C (w2 := [[(h0, .inr (9, [.ref qD, .ref qV, .ref qN, .ref qC, .ref qP, .ref qs, .ref qr, .int 0, .ref qp, .ref qu, .ref qI, .ref qO, .ref qL, .ref qF, .ref qc, .int 0]))], [(qD, .inr (1, [.ref q9, .ref q19]))], [(q9, .inl (dA 6, (32, .inr (.inr (.inr (.inr (fun i => some (r9 i)))))))) ], [(q19, .inl (dA 0, (13, .inl (fun _ => 0))))], [(r9 0, .inl (dA 0, (13, .inl (fun _ => 0)))), (r9 1, .inl (dA 0, (13, .inl (fun _ => 0)))), (r9 2, .inl (dA 0, (13, .inl (fun _ => 0)))), (r9 3, .inl (dA 0, (13, .inl (fun _ => 0)))), (r9 4, .inl (dA 0, (13, .inl (fun _ => 0)))), (r9 5, .inl (dA 0, (13, .inl (fun _ => 0)))), (r9 6, .inl (dA 0, (13, .inl (fun _ => 0)))), (r9 7, .inl (dA 0, (13, .inl (fun _ => 0)))), (r9 8, .inl (dA 0, (13, .inl (fun _ => 0)))), (r9 9, .inl (dA 0, (13, .inl (fun _ => 0)))), (r9 10, .inl (dA 0, (13, .inl (fun _ => 0)))), (r9 11, .inl (dA 0, (13, .inl (fun _ => 0)))), (r9 12, .inl (dA 0, (13, .inl (fun _ => 0)))), (r9 13, .inl (dA 0, (13, .inl (fun _ => 0)))), (r9 14, .inl (dA 0, (13, .inl (fun _ => 0)))), (r9 15, .inl (dA 0, (13, .inl (fun _ => 0)))), (r9 16, .inl (dA 0, (13, .inl (fun _ => 0)))), (r9 17, .inl (dA 0, (13, .inl (fun _ => 0)))), (r9 18, .inl (dA 0, (13, .inl (fun _ => 0)))), (r9 19, .inl (dA 0, (13, .inl (fun _ => 0)))), (r9 20, .inl (dA 0, (13, .inl (fun _ => 0)))), (r9 21, .inl (dA 0, (13, .inl (fun _ => 0)))), (r9 22, .inl (dA 0, (13, .inl (fun _ => 0)))), (r9 23, .inl (dA 0, (13, .inl (fun _ => 0)))), (r9 24, .inl (dA 0, (13, .inl (fun _ => 0)))), (r9 25, .inl (dA 0, (13, .inl (fun _ => 0)))), (r9 26, .inl (dA 0, (13, .inl (fun _ => 0)))), (r9 27, .inl (dA 0, (13, .inl (fun _ => 0)))), (r9 28, .inl (dA 0, (13, .inl (fun _ => 0)))), (r9 29, .inl (dA 0, (13, .inl (fun _ => 0)))), (r9 30, .inl (dA 0, (13, .inl (fun _ => 0)))), (r9 31, .inl (dA 0, (13, .inl (fun _ => 0))))], wV, wN, wG, wH, [(qp, .inl (dA 5, 2, .inr (.inr (.inr (.inr (va_up (va_up (fun _ => none) 0 (some qG)) 1 (some qH)))))))], [(qu, .inl (dA 1, (2, .inl (fun _ => 0))))], wC, wP, [(qs, .inl (dA 3, 3, .inr (.inr (.inr (.inr (va_up (va_up (va_up (fun _ => none) 0 (some qX)) 1 (some qY)) 2 (some qZ)))))))], [(qX, .inr (7, [.ref uX, .ref vX, .int 0, .int 0]))], sX, [(vX, .inl (dA 4, 3, .inr (.inr (.inr (.inr (va_up (va_up (va_up (fun _ => none) 0 (some aX)) 1 (some bX)) 2 (some cX))))))) ], tX, yX, zX, [(qY, .inr (7, [.ref uY, .ref vY, .int 0, .int 0]))], sY, [(vY, .inl (dA 4, 3, .inr (.inr (.inr (.inr (va_up (va_up (va_up (fun _ => none) 0 (some aY)) 1 (some bY)) 2 (some cY))))))) ], tY, yY, zY, [(qZ, .inr (7, [.ref uZ, .ref vZ, .int 0, .int 0]))], sZ, [(vZ, .inl (dA 4, 3, .inr (.inr (.inr (.inr (va_up (va_up (va_up (fun _ => none) 0 (some aZ)) 1 (some bZ)) 2 (some cZ))))))) ], tZ, yZ, zZ, [(qr, .inl (dA 0, (3, .inl (fun _ => 0))))], wI, wO, [(qL, .inr (3, [.ref l1, .int 0]))], [(l1, .inl (dA 6, (8, .inr (.inr (.inr (.inr (fun i => some (rl i)))))))) ], [(rl 0, .inl (dA 0, (4, .inl (fun _ => 0)))), (rl 1, .inl (dA 0, (4, .inl (fun _ => 0)))), (rl 2, .inl (dA 0, (4, .inl (fun _ => 0)))), (rl 3, .inl (dA 0, (4, .inl (fun _ => 0)))), (rl 4, .inl (dA 0, (4, .inl (fun _ => 0)))), (rl 5, .inl (dA 0, (4, .inl (fun _ => 0)))), (rl 6, .inl (dA 0, (4, .inl (fun _ => 0)))), (rl 7, .inl (dA 0, (4, .inl (fun _ => 0))))], wF, [(qc, .inl (dA 0, (8, .inl (fun _ => 0))))]].flatten) (by
    refine (List.Perm.of_eq (?_ : _ = [[(h0, .inr (9, [.ref qD, .ref qV, .ref qN, .ref qC, .ref qP, .ref qs, .ref qr, .int 0, .ref qp, .ref qu, .ref qI, .ref qO, .ref qL, .ref qF, .ref qc, .int 0]))], [(qp, .inl (dA 5, 2, .inr (.inr (.inr (.inr (va_up (va_up (fun _ => none) 0 (some qG)) 1 (some qH)))))))], [(qs, .inl (dA 3, 3, .inr (.inr (.inr (.inr (va_up (va_up (va_up (fun _ => none) 0 (some qX)) 1 (some qY)) 2 (some qZ)))))))], [(qD, .inr (1, [.ref q9, .ref q19]))], [(q9, .inl (dA 6, (32, .inr (.inr (.inr (.inr (fun i => some (r9 i)))))))) ], [(r9 0, .inl (dA 0, (13, .inl (fun _ => 0)))), (r9 1, .inl (dA 0, (13, .inl (fun _ => 0)))), (r9 2, .inl (dA 0, (13, .inl (fun _ => 0)))), (r9 3, .inl (dA 0, (13, .inl (fun _ => 0)))), (r9 4, .inl (dA 0, (13, .inl (fun _ => 0)))), (r9 5, .inl (dA 0, (13, .inl (fun _ => 0)))), (r9 6, .inl (dA 0, (13, .inl (fun _ => 0)))), (r9 7, .inl (dA 0, (13, .inl (fun _ => 0)))), (r9 8, .inl (dA 0, (13, .inl (fun _ => 0)))), (r9 9, .inl (dA 0, (13, .inl (fun _ => 0)))), (r9 10, .inl (dA 0, (13, .inl (fun _ => 0)))), (r9 11, .inl (dA 0, (13, .inl (fun _ => 0)))), (r9 12, .inl (dA 0, (13, .inl (fun _ => 0)))), (r9 13, .inl (dA 0, (13, .inl (fun _ => 0)))), (r9 14, .inl (dA 0, (13, .inl (fun _ => 0)))), (r9 15, .inl (dA 0, (13, .inl (fun _ => 0)))), (r9 16, .inl (dA 0, (13, .inl (fun _ => 0)))), (r9 17, .inl (dA 0, (13, .inl (fun _ => 0)))), (r9 18, .inl (dA 0, (13, .inl (fun _ => 0)))), (r9 19, .inl (dA 0, (13, .inl (fun _ => 0)))), (r9 20, .inl (dA 0, (13, .inl (fun _ => 0)))), (r9 21, .inl (dA 0, (13, .inl (fun _ => 0)))), (r9 22, .inl (dA 0, (13, .inl (fun _ => 0)))), (r9 23, .inl (dA 0, (13, .inl (fun _ => 0)))), (r9 24, .inl (dA 0, (13, .inl (fun _ => 0)))), (r9 25, .inl (dA 0, (13, .inl (fun _ => 0)))), (r9 26, .inl (dA 0, (13, .inl (fun _ => 0)))), (r9 27, .inl (dA 0, (13, .inl (fun _ => 0)))), (r9 28, .inl (dA 0, (13, .inl (fun _ => 0)))), (r9 29, .inl (dA 0, (13, .inl (fun _ => 0)))), (r9 30, .inl (dA 0, (13, .inl (fun _ => 0)))), (r9 31, .inl (dA 0, (13, .inl (fun _ => 0))))], [(q19, .inl (dA 0, (13, .inl (fun _ => 0))))], wV, wN, wC, wP, [(qr, .inl (dA 0, (3, .inl (fun _ => 0))))], [(qu, .inl (dA 1, (2, .inl (fun _ => 0))))], wI, wO, [(qL, .inr (3, [.ref l1, .int 0]))], [(l1, .inl (dA 6, (8, .inr (.inr (.inr (.inr (fun i => some (rl i)))))))) ], [(rl 0, .inl (dA 0, (4, .inl (fun _ => 0)))), (rl 1, .inl (dA 0, (4, .inl (fun _ => 0)))), (rl 2, .inl (dA 0, (4, .inl (fun _ => 0)))), (rl 3, .inl (dA 0, (4, .inl (fun _ => 0)))), (rl 4, .inl (dA 0, (4, .inl (fun _ => 0)))), (rl 5, .inl (dA 0, (4, .inl (fun _ => 0)))), (rl 6, .inl (dA 0, (4, .inl (fun _ => 0)))), (rl 7, .inl (dA 0, (4, .inl (fun _ => 0))))], wF, [(qc, .inl (dA 0, (8, .inl (fun _ => 0))))], [(qX, .inr (7, [.ref uX, .ref vX, .int 0, .int 0]))], [(vX, .inl (dA 4, 3, .inr (.inr (.inr (.inr (va_up (va_up (va_up (fun _ => none) 0 (some aX)) 1 (some bX)) 2 (some cX))))))) ], sX, tX, yX, zX, [(qY, .inr (7, [.ref uY, .ref vY, .int 0, .int 0]))], [(vY, .inl (dA 4, 3, .inr (.inr (.inr (.inr (va_up (va_up (va_up (fun _ => none) 0 (some aY)) 1 (some bY)) 2 (some cY))))))) ], sY, tY, yY, zY, [(qZ, .inr (7, [.ref uZ, .ref vZ, .int 0, .int 0]))], [(vZ, .inl (dA 4, 3, .inr (.inr (.inr (.inr (va_up (va_up (va_up (fun _ => none) 0 (some aZ)) 1 (some bZ)) 2 (some cZ))))))) ], sZ, tZ, yZ, zZ, wG, wH].flatten)).trans (n_file _ _ _ _ _ _ _ _ _ _ _ _ _ _ _ _ _ _ _ _ _ _ _ _ _ _ _ _ _ _ _ _ _ _ _ _ _ _ _ _)
    rw [eD, eX, eY, eZ, eL]
    simp only [List.flatten_cons, List.flatten_nil, List.append_assoc, List.cons_append, List.nil_append, List.append_nil]) ?_
  have hsim : n_sim ([[(h0, .inr (9, [.ref qD, .ref qV, .ref qN, .ref qC, .ref qP, .ref qs, .ref qr, .int 0, .ref qp, .ref qu, .ref qI, .ref qO, .ref qL, .ref qF, .ref qc, .int 0]))], [(qD, .inr (1, [.ref q9, .ref q19]))], [(q9, .inl (dA 6, (32, .inr (.inr (.inr (.inr (fun i => some (r9 i)))))))) ], [(q19, .inl (dA 0, (13, .inl (fun _ => 0))))], [(r9 0, .inl (dA 0, (13, .inl (fun _ => 0)))), (r9 1, .inl (dA 0, (13, .inl (fun _ => 0)))), (r9 2, .inl (dA 0, (13, .inl (fun _ => 0)))), (r9 3, .inl (dA 0, (13, .inl (fun _ => 0)))), (r9 4, .inl (dA 0, (13, .inl (fun _ => 0)))), (r9 5, .inl (dA 0, (13, .inl (fun _ => 0)))), (r9 6, .inl (dA 0, (13, .inl (fun _ => 0)))), (r9 7, .inl (dA 0, (13, .inl (fun _ => 0)))), (r9 8, .inl (dA 0, (13, .inl (fun _ => 0)))), (r9 9, .inl (dA 0, (13, .inl (fun _ => 0)))), (r9 10, .inl (dA 0, (13, .inl (fun _ => 0)))), (r9 11, .inl (dA 0, (13, .inl (fun _ => 0)))), (r9 12, .inl (dA 0, (13, .inl (fun _ => 0)))), (r9 13, .inl (dA 0, (13, .inl (fun _ => 0)))), (r9 14, .inl (dA 0, (13, .inl (fun _ => 0)))), (r9 15, .inl (dA 0, (13, .inl (fun _ => 0)))), (r9 16, .inl (dA 0, (13, .inl (fun _ => 0)))), (r9 17, .inl (dA 0, (13, .inl (fun _ => 0)))), (r9 18, .inl (dA 0, (13, .inl (fun _ => 0)))), (r9 19, .inl (dA 0, (13, .inl (fun _ => 0)))), (r9 20, .inl (dA 0, (13, .inl (fun _ => 0)))), (r9 21, .inl (dA 0, (13, .inl (fun _ => 0)))), (r9 22, .inl (dA 0, (13, .inl (fun _ => 0)))), (r9 23, .inl (dA 0, (13, .inl (fun _ => 0)))), (r9 24, .inl (dA 0, (13, .inl (fun _ => 0)))), (r9 25, .inl (dA 0, (13, .inl (fun _ => 0)))), (r9 26, .inl (dA 0, (13, .inl (fun _ => 0)))), (r9 27, .inl (dA 0, (13, .inl (fun _ => 0)))), (r9 28, .inl (dA 0, (13, .inl (fun _ => 0)))), (r9 29, .inl (dA 0, (13, .inl (fun _ => 0)))), (r9 30, .inl (dA 0, (13, .inl (fun _ => 0)))), (r9 31, .inl (dA 0, (13, .inl (fun _ => 0))))], wV, wN, wG, wH, [(qp, .inl (dA 5, 2, .inr (.inr (.inr (.inr (va_up (va_up (fun _ => none) 0 (some qG)) 1 (some qH)))))))], [(qu, .inl (dA 1, (2, .inl (fun _ => 0))))], wC, wP, [(qs, .inl (dA 3, 3, .inr (.inr (.inr (.inr (va_up (va_up (va_up (fun _ => none) 0 (some qX)) 1 (some qY)) 2 (some qZ)))))))], [(qX, .inr (7, [.ref uX, .ref vX, .int 0, .int 0]))], sX, [(vX, .inl (dA 4, 3, .inr (.inr (.inr (.inr (va_up (va_up (va_up (fun _ => none) 0 (some aX)) 1 (some bX)) 2 (some cX))))))) ], tX, yX, zX, [(qY, .inr (7, [.ref uY, .ref vY, .int 0, .int 0]))], sY, [(vY, .inl (dA 4, 3, .inr (.inr (.inr (.inr (va_up (va_up (va_up (fun _ => none) 0 (some aY)) 1 (some bY)) 2 (some cY))))))) ], tY, yY, zY, [(qZ, .inr (7, [.ref uZ, .ref vZ, .int 0, .int 0]))], sZ, [(vZ, .inl (dA 4, 3, .inr (.inr (.inr (.inr (va_up (va_up (va_up (fun _ => none) 0 (some aZ)) 1 (some bZ)) 2 (some cZ))))))) ], tZ, yZ, zZ, [(qr, .inl (dA 0, (3, .inl (fun _ => 0))))], wI, wO, [(qL, .inr (3, [.ref l1, .int 0]))], [(l1, .inl (dA 6, (8, .inr (.inr (.inr (.inr (fun i => some (rl i)))))))) ], [(rl 0, .inl (dA 0, (4, .inl (fun _ => 0)))), (rl 1, .inl (dA 0, (4, .inl (fun _ => 0)))), (rl 2, .inl (dA 0, (4, .inl (fun _ => 0)))), (rl 3, .inl (dA 0, (4, .inl (fun _ => 0)))), (rl 4, .inl (dA 0, (4, .inl (fun _ => 0)))), (rl 5, .inl (dA 0, (4, .inl (fun _ => 0)))), (rl 6, .inl (dA 0, (4, .inl (fun _ => 0)))), (rl 7, .inl (dA 0, (4, .inl (fun _ => 0))))], wF, [(qc, .inl (dA 0, (8, .inl (fun _ => 0))))]].flatten) (s_w dA ad 0 109 mc0) := by
    have z0 : n_sim [(h0, .inr (9, [.ref qD, .ref qV, .ref qN, .ref qC, .ref qP, .ref qs, .ref qr, .int 0, .ref qp, .ref qu, .ref qI, .ref qO, .ref qL, .ref qF, .ref qc, .int 0]))] (s_w dA ad 0 1 mc0) := by subst had; exact n_sim_eq rfl
    have z1 : n_sim [(qD, .inr (1, [.ref q9, .ref q19]))] (s_w dA ad 1 1 mc0) := by subst had; exact n_sim_eq rfl
    have z2 : n_sim [(q9, .inl (dA 6, (32, .inr (.inr (.inr (.inr (fun i => some (r9 i)))))))) ] (s_w dA ad 2 1 mc0) := by subst had; exact n_sim_row (fun i hi => by rcases (show i = 0 ∨ i = 1 ∨ i = 2 ∨ i = 3 ∨ i = 4 ∨ i = 5 ∨ i = 6 ∨ i = 7 ∨ i = 8 ∨ i = 9 ∨ i = 10 ∨ i = 11 ∨ i = 12 ∨ i = 13 ∨ i = 14 ∨ i = 15 ∨ i = 16 ∨ i = 17 ∨ i = 18 ∨ i = 19 ∨ i = 20 ∨ i = 21 ∨ i = 22 ∨ i = 23 ∨ i = 24 ∨ i = 25 ∨ i = 26 ∨ i = 27 ∨ i = 28 ∨ i = 29 ∨ i = 30 ∨ i = 31 by omega) with rfl | rfl | rfl | rfl | rfl | rfl | rfl | rfl | rfl | rfl | rfl | rfl | rfl | rfl | rfl | rfl | rfl | rfl | rfl | rfl | rfl | rfl | rfl | rfl | rfl | rfl | rfl | rfl | rfl | rfl | rfl | rfl <;> rfl)
    have z3 : n_sim [(q19, .inl (dA 0, (13, .inl (fun _ => 0))))] (s_w dA ad 3 1 mc0) := by subst had; exact n_sim_eq rfl
    have z4 : n_sim [(r9 0, .inl (dA 0, (13, .inl (fun _ => 0)))), (r9 1, .inl (dA 0, (13, .inl (fun _ => 0)))), (r9 2, .inl (dA 0, (13, .inl (fun _ => 0)))), (r9 3, .inl (dA 0, (13, .inl (fun _ => 0)))), (r9 4, .inl (dA 0, (13, .inl (fun _ => 0)))), (r9 5, .inl (dA 0, (13, .inl (fun _ => 0)))), (r9 6, .inl (dA 0, (13, .inl (fun _ => 0)))), (r9 7, .inl (dA 0, (13, .inl (fun _ => 0)))), (r9 8, .inl (dA 0, (13, .inl (fun _ => 0)))), (r9 9, .inl (dA 0, (13, .inl (fun _ => 0)))), (r9 10, .inl (dA 0, (13, .inl (fun _ => 0)))), (r9 11, .inl (dA 0, (13, .inl (fun _ => 0)))), (r9 12, .inl (dA 0, (13, .inl (fun _ => 0)))), (r9 13, .inl (dA 0, (13, .inl (fun _ => 0)))), (r9 14, .inl (dA 0, (13, .inl (fun _ => 0)))), (r9 15, .inl (dA 0, (13, .inl (fun _ => 0)))), (r9 16, .inl (dA 0, (13, .inl (fun _ => 0)))), (r9 17, .inl (dA 0, (13, .inl (fun _ => 0)))), (r9 18, .inl (dA 0, (13, .inl (fun _ => 0)))), (r9 19, .inl (dA 0, (13, .inl (fun _ => 0)))), (r9 20, .inl (dA 0, (13, .inl (fun _ => 0)))), (r9 21, .inl (dA 0, (13, .inl (fun _ => 0)))), (r9 22, .inl (dA 0, (13, .inl (fun _ => 0)))), (r9 23, .inl (dA 0, (13, .inl (fun _ => 0)))), (r9 24, .inl (dA 0, (13, .inl (fun _ => 0)))), (r9 25, .inl (dA 0, (13, .inl (fun _ => 0)))), (r9 26, .inl (dA 0, (13, .inl (fun _ => 0)))), (r9 27, .inl (dA 0, (13, .inl (fun _ => 0)))), (r9 28, .inl (dA 0, (13, .inl (fun _ => 0)))), (r9 29, .inl (dA 0, (13, .inl (fun _ => 0)))), (r9 30, .inl (dA 0, (13, .inl (fun _ => 0)))), (r9 31, .inl (dA 0, (13, .inl (fun _ => 0))))] (s_w dA ad 4 32 mc0) := by subst had; exact n_sim_eq rfl
    have z5 : n_sim wV (s_w dA ad 36 3 mc0) := by subst had; exact n_sim_eq (eV.trans rfl)
    have z6 : n_sim wN (s_w dA ad 39 3 mc0) := by subst had; exact n_sim_eq (eN.trans rfl)
    have z7 : n_sim wG (s_w dA ad 42 3 mc0) := by subst had; exact n_sim_eq (eG.trans rfl)
    have z8 : n_sim wH (s_w dA ad 45 3 mc0) := by subst had; exact n_sim_eq (eH.trans rfl)
    have z9 : n_sim [(qp, .inl (dA 5, 2, .inr (.inr (.inr (.inr (va_up (va_up (fun _ => none) 0 (some qG)) 1 (some qH)))))))] (s_w dA ad 48 1 mc0) := by subst had; exact n_sim_row (fun i hi => by rcases (show i = 0 ∨ i = 1 by omega) with rfl | rfl <;> rfl)
    have z10 : n_sim [(qu, .inl (dA 1, (2, .inl (fun _ => 0))))] (s_w dA ad 49 1 mc0) := by subst had; exact n_sim_eq rfl
    have z11 : n_sim wC (s_w dA ad 50 2 mc0) := by subst had; exact n_sim_eq (eC.trans rfl)
    have z12 : n_sim wP (s_w dA ad 52 1 mc0) := by subst had; exact n_sim_eq (eP.trans rfl)
    have z13 : n_sim [(qs, .inl (dA 3, 3, .inr (.inr (.inr (.inr (va_up (va_up (va_up (fun _ => none) 0 (some qX)) 1 (some qY)) 2 (some qZ)))))))] (s_w dA ad 53 1 mc0) := by subst had; exact n_sim_row (fun i hi => by rcases (show i = 0 ∨ i = 1 ∨ i = 2 by omega) with rfl | rfl | rfl <;> rfl)
    have z14 : n_sim [(qX, .inr (7, [.ref uX, .ref vX, .int 0, .int 0]))] (s_w dA ad 54 1 mc0) := by subst had; exact n_sim_eq rfl
    have z15 : n_sim sX (s_w dA ad 55 2 mc0) := by subst had; exact n_sim_eq (esX.trans rfl)
    have z16 : n_sim [(vX, .inl (dA 4, 3, .inr (.inr (.inr (.inr (va_up (va_up (va_up (fun _ => none) 0 (some aX)) 1 (some bX)) 2 (some cX))))))) ] (s_w dA ad 57 1 mc0) := by subst had; exact n_sim_row (fun i hi => by rcases (show i = 0 ∨ i = 1 ∨ i = 2 by omega) with rfl | rfl | rfl <;> rfl)
    have z17 : n_sim tX (s_w dA ad 58 2 mc0) := by subst had; exact n_sim_eq (etX.trans rfl)
    have z18 : n_sim yX (s_w dA ad 60 2 mc0) := by subst had; exact n_sim_eq (eyX.trans rfl)
    have z19 : n_sim zX (s_w dA ad 62 2 mc0) := by subst had; exact n_sim_eq (ezX.trans rfl)
    have z20 : n_sim [(qY, .inr (7, [.ref uY, .ref vY, .int 0, .int 0]))] (s_w dA ad 64 1 mc0) := by subst had; exact n_sim_eq rfl
    have z21 : n_sim sY (s_w dA ad 65 2 mc0) := by subst had; exact n_sim_eq (esY.trans rfl)
    have z22 : n_sim [(vY, .inl (dA 4, 3, .inr (.inr (.inr (.inr (va_up (va_up (va_up (fun _ => none) 0 (some aY)) 1 (some bY)) 2 (some cY))))))) ] (s_w dA ad 67 1 mc0) := by subst had; exact n_sim_row (fun i hi => by rcases (show i = 0 ∨ i = 1 ∨ i = 2 by omega) with rfl | rfl | rfl <;> rfl)
    have z23 : n_sim tY (s_w dA ad 68 2 mc0) := by subst had; exact n_sim_eq (etY.trans rfl)
    have z24 : n_sim yY (s_w dA ad 70 2 mc0) := by subst had; exact n_sim_eq (eyY.trans rfl)
    have z25 : n_sim zY (s_w dA ad 72 2 mc0) := by subst had; exact n_sim_eq (ezY.trans rfl)
    have z26 : n_sim [(qZ, .inr (7, [.ref uZ, .ref vZ, .int 0, .int 0]))] (s_w dA ad 74 1 mc0) := by subst had; exact n_sim_eq rfl
    have z27 : n_sim sZ (s_w dA ad 75 2 mc0) := by subst had; exact n_sim_eq (esZ.trans rfl)
    have z28 : n_sim [(vZ, .inl (dA 4, 3, .inr (.inr (.inr (.inr (va_up (va_up (va_up (fun _ => none) 0 (some aZ)) 1 (some bZ)) 2 (some cZ))))))) ] (s_w dA ad 77 1 mc0) := by subst had; exact n_sim_row (fun i hi => by rcases (show i = 0 ∨ i = 1 ∨ i = 2 by omega) with rfl | rfl | rfl <;> rfl)
    have z29 : n_sim tZ (s_w dA ad 78 2 mc0) := by subst had; exact n_sim_eq (etZ.trans rfl)
    have z30 : n_sim yZ (s_w dA ad 80 2 mc0) := by subst had; exact n_sim_eq (eyZ.trans rfl)
    have z31 : n_sim zZ (s_w dA ad 82 2 mc0) := by subst had; exact n_sim_eq (ezZ.trans rfl)
    have z32 : n_sim [(qr, .inl (dA 0, (3, .inl (fun _ => 0))))] (s_w dA ad 84 1 mc0) := by subst had; exact n_sim_eq rfl
    have z33 : n_sim wI (s_w dA ad 85 6 mc0) := by subst had; exact n_sim_eq (eI.trans rfl)
    have z34 : n_sim wO (s_w dA ad 91 3 mc0) := by subst had; exact n_sim_eq (eO.trans rfl)
    have z35 : n_sim [(qL, .inr (3, [.ref l1, .int 0]))] (s_w dA ad 94 1 mc0) := by subst had; exact n_sim_eq rfl
    have z36 : n_sim [(l1, .inl (dA 6, (8, .inr (.inr (.inr (.inr (fun i => some (rl i)))))))) ] (s_w dA ad 95 1 mc0) := by subst had; exact n_sim_row (fun i hi => by rcases (show i = 0 ∨ i = 1 ∨ i = 2 ∨ i = 3 ∨ i = 4 ∨ i = 5 ∨ i = 6 ∨ i = 7 by omega) with rfl | rfl | rfl | rfl | rfl | rfl | rfl | rfl <;> rfl)
    have z37 : n_sim [(rl 0, .inl (dA 0, (4, .inl (fun _ => 0)))), (rl 1, .inl (dA 0, (4, .inl (fun _ => 0)))), (rl 2, .inl (dA 0, (4, .inl (fun _ => 0)))), (rl 3, .inl (dA 0, (4, .inl (fun _ => 0)))), (rl 4, .inl (dA 0, (4, .inl (fun _ => 0)))), (rl 5, .inl (dA 0, (4, .inl (fun _ => 0)))), (rl 6, .inl (dA 0, (4, .inl (fun _ => 0)))), (rl 7, .inl (dA 0, (4, .inl (fun _ => 0))))] (s_w dA ad 96 8 mc0) := by subst had; exact n_sim_eq rfl
    have z38 : n_sim wF (s_w dA ad 104 4 mc0) := by subst had; exact n_sim_eq (eF.trans rfl)
    have z39 : n_sim [(qc, .inl (dA 0, (8, .inl (fun _ => 0))))] (s_w dA ad 108 1 mc0) := by subst had; exact n_sim_eq rfl
    exact n_sim_cat (a := 1) (b := 108) z0 (n_sim_cat (a := 1) (b := 107) z1 (n_sim_cat (a := 1) (b := 106) z2 (n_sim_cat (a := 1) (b := 105) z3 (n_sim_cat (a := 32) (b := 73) z4 (n_sim_cat (a := 3) (b := 70) z5 (n_sim_cat (a := 3) (b := 67) z6 (n_sim_cat (a := 3) (b := 64) z7 (n_sim_cat (a := 3) (b := 61) z8 (n_sim_cat (a := 1) (b := 60) z9 (n_sim_cat (a := 1) (b := 59) z10 (n_sim_cat (a := 2) (b := 57) z11 (n_sim_cat (a := 1) (b := 56) z12 (n_sim_cat (a := 1) (b := 55) z13 (n_sim_cat (a := 1) (b := 54) z14 (n_sim_cat (a := 2) (b := 52) z15 (n_sim_cat (a := 1) (b := 51) z16 (n_sim_cat (a := 2) (b := 49) z17 (n_sim_cat (a := 2) (b := 47) z18 (n_sim_cat (a := 2) (b := 45) z19 (n_sim_cat (a := 1) (b := 44) z20 (n_sim_cat (a := 2) (b := 42) z21 (n_sim_cat (a := 1) (b := 41) z22 (n_sim_cat (a := 2) (b := 39) z23 (n_sim_cat (a := 2) (b := 37) z24 (n_sim_cat (a := 2) (b := 35) z25 (n_sim_cat (a := 1) (b := 34) z26 (n_sim_cat (a := 2) (b := 32) z27 (n_sim_cat (a := 1) (b := 31) z28 (n_sim_cat (a := 2) (b := 29) z29 (n_sim_cat (a := 2) (b := 27) z30 (n_sim_cat (a := 2) (b := 25) z31 (n_sim_cat (a := 1) (b := 24) z32 (n_sim_cat (a := 6) (b := 18) z33 (n_sim_cat (a := 3) (b := 15) z34 (n_sim_cat (a := 1) (b := 14) z35 (n_sim_cat (a := 1) (b := 13) z36 (n_sim_cat (a := 8) (b := 5) z37 (n_sim_cat (a := 4) (b := 1) z38 (n_sim_cat (a := 1) (b := 0) z39 (n_sim_eq rfl))))))))))))))))))))))))))))))))))))))))
  refine n_simV C hsim ?_
  have e0 : ad 0 = h0 := by rw [had]; rfl
  show V _ _ _ _ (.ref h0 :: []) _
  rw [← e0]
  refine n_callC C (a := 0) (C' := RX9) (c_X9_makeNewFile 109 (Nat.le_refl _)) (p_mnf mc0) dX9_init_204 gX9_init_X9_makeNewFile ⟨rfl, (by decide), (by decide), (by decide +kernel)⟩ (by decide) la_0 rfl rfl rfl (by decide) (by decide) (by decide) (by decide) ?_
  show V _ _ _ _ [] _
  exact n_ret C dX9_init_207 (by decide) (by decide) ⟨ad, e0, rfl⟩
