/-! CONSTRUCTORS: worlds as lists, in the order of the making. -/
set_option maxRecDepth 100000 in
set_option maxHeartbeats 1000000 in
theorem n_AOA_spec {A : Array Value} {t : FieldType} {s : State} (h : (Cond.arrayOver (.array t)).before A s = true) : ∃ comp c k, s.vm.findClass (FieldType.array t).toString = some comp ∧ (s.vm.classes.findIdx? fun (x : Class) => match x.kind with | .array component _ => component == comp | _ => false) = some c ∧ s.vm.classes[c]? = some k ∧ (∃ cm, k.kind = .array cm (.array t)) ∧ s.vm.findClass ("[" ++ (FieldType.array t).toString) = some c := by
  unfold Cond.before Cond.holds at h
  simp only [Cond.value, beq_iff_eq] at h
  cases hc : s.vm.findClass (FieldType.array t).toString with
  | none => rw [hc] at h; simp at h
  | some comp =>
    rw [hc] at h
    simp only [Option.bind_some, Option.bind_eq_some_iff, Option.map_eq_some_iff] at h
    obtain ⟨c, hi, k, hk, hb⟩ := h
    cases hkind : k.kind with
    | array cm ty =>
      rw [hkind] at hb
      simp only [Bool.and_eq_true, decide_eq_true_eq] at hb
      exact ⟨comp, c, k, rfl, hi, hk, ⟨cm, by rw [hkind, hb.1]⟩, hb.2⟩
    | _ => rw [hkind] at hb; simp at hb
set_option maxRecDepth 100000 in
set_option maxHeartbeats 1000000 in
theorem n_AOA_moved {t : FieldType} {u U : State} (hvm : u.vm.Alike U.vm) (h : va_AOA t u) : va_AOA t U := by
  obtain ⟨comp, c, k, h1, h2, h3, ⟨cm, h4⟩, h5⟩ := n_AOA_spec h
  obtain ⟨k', hk', he⟩ := hvm.2.2 _ _ h3
  have hb : U.vm.bare = u.vm.bare := by first | exact hvm.bare_eq | exact hvm.bare_eq.symm
  have hi : (U.vm.classes.findIdx? fun (x : Class) => match x.kind with | .array component _ => component == comp | _ => false) = some c :=
    ((va_idx_bare U.vm comp).symm.trans ((congrArg (fun v : Vm => v.classes.findIdx? fun (x : Class) => match x.kind with | .array component _ => component == comp | _ => false) hb).trans (va_idx_bare u.vm comp))).trans h2
  have hkind : k'.kind = .array cm (.array t) := by rw [he]; exact h4
  have f1 : U.vm.findClass (FieldType.array t).toString = some comp := by rw [hvm.findClass]; exact h1
  have f2 : U.vm.findClass ("[" ++ (FieldType.array t).toString) = some c := by rw [hvm.findClass]; exact h5
  unfold va_AOA Cond.before Cond.holds
  simp only [Cond.value]
  rw [f1, Option.bind_some]
  refine (congrArg (fun o : Option Nat => (o.bind (fun c => (U.vm.classes[c]?).map fun (k : Class) => match k.kind with | .array _ ty => decide (ty = FieldType.array t) && decide (U.vm.findClass ("[" ++ (FieldType.array t).toString) = some c) | _ => false) == some true)) hi).trans ?_
  simp [hk', hkind, f2]
def n_E (U : State) : Prop := va_AO RX0 U ∧ va_AO RX7 U ∧ va_AO RX8 U ∧ va_AOA .int U
set_option maxRecDepth 100000 in
set_option maxHeartbeats 1000000 in
theorem n_E.moved {u U : State} (hvm : u.vm.Alike U.vm) (h : n_E u) : n_E U := ⟨va_AO.moved hvm h.1, va_AO.moved hvm h.2.1, va_AO.moved hvm h.2.2.1, n_AOA_moved hvm h.2.2.2⟩
set_option maxRecDepth 100000 in
set_option maxHeartbeats 1000000 in
theorem n_cls {D : va_G} {dA : Nat → ClassId} {s : State} {cA : ClassId} {ty : FieldType} {t : Nat} (ht : (s_tys dA)[t]? = some (dA t, ty)) (hK : va_K D vwCl (s_tys dA ++ [(cA, ty)]) s) : cA = dA t := by
  have key : ∀ {c : ClassId}, va_RA s c ty → s.vm.findClass ("[" ++ ty.toString) = some c := fun {c} h => by
    cases ty with
    | object C => obtain ⟨_, _, _, _, _, h5⟩ := h; exact h5
    | _ => exact h
  have e1 := key (hK.2 8 (cA, ty) rfl).2
  have hlt : t < 8 := (List.getElem?_eq_some_iff.mp ht).1
  have e2 := key (hK.2 t (dA t, ty) (by rw [List.getElem?_append_left hlt]; exact ht)).2
  exact Option.some.inj (e1.symm.trans e2)
set_option maxRecDepth 100000 in
set_option maxHeartbeats 1000000 in
theorem n_P_iff {D : va_G} {cl : List vw_C} {ws : va_W} {H : Heap} : va_P D cl ws H ↔ ∀ q ∈ ws, va_at D cl q H :=
  ⟨fun h q hq => by obtain ⟨k, hk⟩ := List.getElem?_of_mem hq; exact h k q hk, fun h k q hk => h q (List.mem_of_getElem? hk)⟩
set_option maxRecDepth 100000 in
set_option maxHeartbeats 1000000 in
theorem n_D_iff {A : Nat → Prop} {ws : va_W} : va_D A ws ↔ (ws.map (·.1)).Nodup ∧ ∀ q ∈ ws, A q.1 := by
  constructor
  · intro h
    refine ⟨List.pairwise_iff_getElem.mpr fun i j hi hj hij e => ?_, fun q hq => by obtain ⟨k, hk⟩ := List.getElem?_of_mem hq; exact h.2 k q hk⟩
    rw [List.getElem_map, List.getElem_map] at e
    rw [List.length_map] at hi hj
    have := h.1 i j _ _ (List.getElem?_eq_getElem hi) (List.getElem?_eq_getElem hj) e
    omega
  · rintro ⟨h1, h2⟩
    refine ⟨fun i j p q hi hj e => ?_, fun k q hk => h2 q (List.mem_of_getElem? hk)⟩
    obtain ⟨li, ei⟩ := List.getElem?_eq_some_iff.mp hi
    obtain ⟨lj, ej⟩ := List.getElem?_eq_some_iff.mp hj
    have hn := List.pairwise_iff_getElem.mp h1
    rcases Nat.lt_trichotomy i j with w | w | w
    · exact absurd (by rw [List.getElem_map, List.getElem_map, ei, ej, e]) (hn i j (by rw [List.length_map]; exact li) (by rw [List.length_map]; exact lj) w)
    · exact w
    · exact absurd (by rw [List.getElem_map, List.getElem_map, ei, ej, e]) (hn j i (by rw [List.length_map]; exact lj) (by rw [List.length_map]; exact li) w)
set_option maxRecDepth 100000 in
set_option maxHeartbeats 1000000 in
theorem n_P_perm {D : va_G} {cl : List vw_C} {ws w2 : va_W} {H : Heap} (hp : ws.Perm w2) (h : va_P D cl ws H) : va_P D cl w2 H := n_P_iff.mpr fun q hq => n_P_iff.mp h q (hp.mem_iff.mpr hq)
set_option maxRecDepth 100000 in
set_option maxHeartbeats 1000000 in
theorem n_D_perm {A : Nat → Prop} {ws w2 : va_W} (hp : ws.Perm w2) (h : va_D A ws) : va_D A w2 := by
  obtain ⟨h1, h2⟩ := n_D_iff.mp h
  exact n_D_iff.mpr ⟨(hp.map _).nodup_iff.mp h1, fun q hq => h2 q (hp.mem_iff.mpr hq)⟩
-- remark: behind a constructor: the caller's cells, and what the constructor left
set_option maxRecDepth 100000 in
set_option maxHeartbeats 1000000 in
theorem n_join {A0 : Nat → Prop} {D : va_G} {cl : List vw_C} {wr w1 : va_W} {x : Nat × va_E} {H H1 : Heap} (hP : va_P D cl (wr ++ [x]) H) (hD : va_D A0 (wr ++ [x])) (hk : ∀ q : Nat, q < H.size → ¬ va_A [x] H.size q → H1[q]? = H[q]?) (hF : ∀ q, va_A [x] H.size q → A0 q) (hP1 : va_P D cl w1 H1) (hD1 : va_D (va_A [x] H.size) w1) : va_P D cl (wr ++ w1) H1 ∧ va_D A0 (wr ++ w1) := by
  obtain ⟨d1, d2⟩ := n_D_iff.mp hD
  obtain ⟨e1, e2⟩ := n_D_iff.mp hD1
  rw [List.map_append, List.nodup_append] at d1
  have hp := n_P_iff.mp hP
  have apart : ∀ q ∈ wr, q.1 < H.size ∧ ¬ va_A [x] H.size q.1 := fun q hq => by
    have hl := (hp q (List.mem_append_left _ hq)).lt
    refine ⟨hl, fun h => ?_⟩
    rcases h with ⟨k, e, h⟩ | h
    · have hx : (q.1, e) = x := by
        have := List.mem_of_getElem? h
        rwa [List.mem_singleton] at this
      exact d1.2.2 q.1 (List.mem_map.mpr ⟨q, hq, rfl⟩) q.1 (by rw [← hx]; exact List.mem_map.mpr ⟨(q.1, e), List.mem_singleton.mpr rfl, rfl⟩) rfl
    · omega
  refine ⟨n_P_iff.mpr fun q hq => ?_, n_D_iff.mpr ⟨?_, fun q hq => ?_⟩⟩
  · rcases List.mem_append.mp hq with h | h
    · exact (hp q (List.mem_append_left _ h)).kept (hk q.1 (apart q h).1 (apart q h).2)
    · exact n_P_iff.mp hP1 q h
  · rw [List.map_append, List.nodup_append]
    refine ⟨d1.1, e1, fun a ha b hb e => ?_⟩
    obtain ⟨q, hq, rfl⟩ := List.mem_map.mp ha
    obtain ⟨r, hr, rfl⟩ := List.mem_map.mp hb
    exact (apart q hq).2 (by rw [e]; exact e2 r hr)
  · rcases List.mem_append.mp hq with h | h
    · exact d2 q (List.mem_append_left _ h)
    · exact hF _ (e2 q h)
