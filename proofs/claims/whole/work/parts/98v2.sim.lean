/-! CONSTRUCTORS: the same world told in another way. -/
def mc0 : sM := (fun a => if a = 52 then (fun k => if k = 0 then (-1) else 0) else if a = 36 ∨ a = 39 ∨ a = 42 ∨ a = 45 then (fun k => if k = 5 then 2 else 0) else fun _ => 0, fun _ _ => 0)
def mz0 : sM := (fun _ _ => 0, fun _ _ => 0)
def n_ad (lo : Nat) (l : List Nat) : Nat → Nat := fun a => l.getD (a - lo) 0
set_option maxRecDepth 100000 in
set_option maxHeartbeats 1000000 in
theorem n_pq {α : Type} (x s p : α) (M : List α) : (x :: s :: (M ++ [p])).Perm (x :: s :: p :: M) := ((List.perm_append_singleton p M).cons s).cons x
set_option maxRecDepth 100000 in
set_option maxHeartbeats 1000000 in
theorem n_shuf {α : Type} (f : Nat → List α) (l l' : List Nat) (h : l.Perm l') : ((l.map f).flatten).Perm ((l'.map f).flatten) := (h.map f).flatten
-- remark: the same cells, rows of references told by their places alone
def n_sE (a b : Nat × va_E) : Prop := a = b ∨ ∃ (q : Nat) (c : ClassId) (x y : vp_A), a = (q, .inl (c, x)) ∧ b = (q, .inl (c, y)) ∧ vp_cell c x = vp_cell c y
def n_sim : va_W → va_W → Prop
  | [], [] => True
  | a :: w, b :: w' => n_sE a b ∧ n_sim w w'
  | _, _ => False
set_option maxRecDepth 100000 in
set_option maxHeartbeats 1000000 in
theorem n_sim_rf : ∀ (w : va_W), n_sim w w
  | [] => trivial
  | _ :: w => ⟨Or.inl rfl, n_sim_rf w⟩
set_option maxRecDepth 100000 in
set_option maxHeartbeats 1000000 in
theorem n_sim_eq {w w' : va_W} (h : w = w') : n_sim w w' := h ▸ n_sim_rf w
set_option maxRecDepth 100000 in
set_option maxHeartbeats 1000000 in
theorem n_sim_app0 : ∀ (a a' b b' : va_W), n_sim a a' → n_sim b b' → n_sim (a ++ b) (a' ++ b')
  | [], [], _, _, _, h => h
  | _ :: a, _ :: a', b, b', h, h2 => ⟨h.1, n_sim_app0 a a' b b' h.2 h2⟩
  | [], _ :: _, _, _, h, _ => h.elim
  | _ :: _, [], _, _, h, _ => h.elim
set_option maxRecDepth 100000 in
set_option maxHeartbeats 1000000 in
theorem n_sim_app {a a' b b' : va_W} (h1 : n_sim a a') (h2 : n_sim b b') : n_sim (a ++ b) (a' ++ b') := n_sim_app0 a a' b b' h1 h2
set_option maxRecDepth 100000 in
set_option maxHeartbeats 1000000 in
theorem n_sim_map {f g : Nat → Nat × va_E} : ∀ (l : List Nat), (∀ a ∈ l, n_sE (f a) (g a)) → n_sim (l.map f) (l.map g)
  | [], _ => trivial
  | a :: l, h => ⟨h a List.mem_cons_self, n_sim_map l fun b hb => h b (List.mem_cons_of_mem _ hb)⟩
set_option maxRecDepth 100000 in
set_option maxHeartbeats 1000000 in
theorem n_sim_P {D : va_G} {cl : List vw_C} {H : Heap} : ∀ (w w' : va_W), n_sim w w' → (∀ q ∈ w, va_at D cl q H) → ∀ q ∈ w', va_at D cl q H
  | [], [], _, _ => fun q hq => absurd hq List.not_mem_nil
  | a :: w, b :: w', h, hp => fun q hq => by
    rcases List.mem_cons.mp hq with hq | hq
    · subst hq
      rcases h.1 with e | ⟨q', c, x, y, e1, e2, e3⟩
      · rw [← e]; exact hp a List.mem_cons_self
      · subst e1
        subst e2
        have h1 : H[q']? = some (vp_cell c x) := hp _ List.mem_cons_self
        show H[q']? = some (vp_cell c y)
        rw [← e3]; exact h1
    · exact n_sim_P w w' h.2 (fun z hz => hp z (List.mem_cons_of_mem _ hz)) q hq
  | [], _ :: _, h, _ => h.elim
  | _ :: _, [], h, _ => h.elim
set_option maxRecDepth 100000 in
set_option maxHeartbeats 1000000 in
theorem n_sim_fst : ∀ (w w' : va_W), n_sim w w' → w.map (·.1) = w'.map (·.1)
  | [], [], _ => rfl
  | a :: w, b :: w', h => by
    have e : a.1 = b.1 := by
      rcases h.1 with e | ⟨q', c, x, y, e1, e2, _⟩
      · rw [e]
      · rw [e1, e2]
    rw [List.map_cons, List.map_cons, e, n_sim_fst w w' h.2]
  | [], _ :: _, h => h.elim
  | _ :: _, [], h => h.elim
set_option maxRecDepth 100000 in
set_option maxHeartbeats 1000000 in
theorem n_D_fst {A : Nat → Prop} {w w' : va_W} (e : w.map (·.1) = w'.map (·.1)) (h : va_D A w) : va_D A w' := by
  obtain ⟨h1, h2⟩ := n_D_iff.mp h
  refine n_D_iff.mpr ⟨e ▸ h1, fun q hq => ?_⟩
  have hm : q.1 ∈ w.map (·.1) := e ▸ List.mem_map.mpr ⟨q, hq, rfl⟩
  obtain ⟨z, hz, ez⟩ := List.mem_map.mp hm
  rw [← ez]; exact h2 z hz
set_option maxRecDepth 100000 in
set_option maxHeartbeats 1000000 in
theorem n_simV {own : String} {cc : ByteArray} {nL : Nat} {Ts : List Cond} {R : Room} {dA : Nat → ClassId} {I : Bool} {Post : va_W → Prop} {V : nTy} (C : nCX own cc nL Ts R dA I Post V) {cells slots pc : Nat} {lv : List (Nat × Value)} {st : List Value} {w w2 : va_W} (hp : n_sim w w2) (k : V cells slots pc lv st w2) : V cells slots pc lv st w := by
  obtain ⟨p, l, e, s, mi, args, below, meth, c, Q, dC, dI, A, hx, hb, hml, hown, hts, hst, hK, hA, hE, hNE, hin, hret, rfl⟩ := C
  intro H locs ls hP hD hS hl
  exact k H locs ls (n_P_iff.mpr (n_sim_P _ _ hp (n_P_iff.mp hP))) (n_D_fst (n_sim_fst _ _ hp) hD) hS hl
set_option maxRecDepth 100000 in
set_option maxHeartbeats 1000000 in
theorem s_w_app (dA : Nat → ClassId) (ad : Nat → Nat) (lo a b : Nat) (m : sM) : s_w dA ad lo (a + b) m = s_w dA ad lo a m ++ s_w dA ad (lo + a) b m := by
  unfold s_w
  rw [← List.map_append, List.range'_append_1]
set_option maxRecDepth 100000 in
set_option maxHeartbeats 1000000 in
theorem n_sim_cat {w1 w2 : va_W} {dA : Nat → ClassId} {ad : Nat → Nat} {lo a b : Nat} {m : sM} (h1 : n_sim w1 (s_w dA ad lo a m)) (h2 : n_sim w2 (s_w dA ad (lo + a) b m)) : n_sim (w1 ++ w2) (s_w dA ad lo (a + b) m) := by
  rw [s_w_app]; exact n_sim_app h1 h2
set_option maxRecDepth 100000 in
set_option maxHeartbeats 1000000 in
theorem n_sim_row {q : Nat} {c : ClassId} {n : Nat} {f g : Nat → Option Nat} (h : ∀ i, i < n → f i = g i) : n_sim [(q, .inl (c, (n, .inr (.inr (.inr (.inr f))))))] [(q, .inl (c, (n, .inr (.inr (.inr (.inr g))))))] := ⟨Or.inr ⟨q, c, _, _, rfl, rfl, n_cell_q c h⟩, trivial⟩
set_option maxRecDepth 100000 in
set_option maxHeartbeats 1000000 in
theorem n_one {dA : Nat → ClassId} {ad : Nat → Nat} {m : sM} {a : Nat} {k : sK} {q : Nat} {e : va_E} (h : sLay a = k) (h1 : ad a = q) (h2 : s_ent dA ad m a k = e) : n_sim [(q, e)] (s_w dA ad a 1 m) := by
  subst h
  subst h1
  subst h2
  exact n_sim_rf _
set_option maxRecDepth 100000 in
set_option maxHeartbeats 1000000 in
theorem n_oneR {dA : Nat → ClassId} {ad : Nat → Nat} {m : sM} {a t n : Nat} {r : Nat × Nat} {q : Nat} {f : Nat → Option Nat} (h : sLay a = .inr (t, n, some r)) (h1 : ad a = q) (h2 : ∀ i, i < n → f i = some (ad (r.1 + r.2 * i))) : n_sim [(q, .inl (dA t, (n, .inr (.inr (.inr (.inr f))))))] (s_w dA ad a 1 m) := by
  subst h1
  have e : s_w dA ad a 1 m = [(ad a, s_ent dA ad m a (.inr (t, n, some r)))] := by rw [← h]; rfl
  rw [e]
  exact n_sim_row h2
