/-! THE FRAME. A world is a run of cells lo .. lo+n-1 of the fixed layout sLay; its contents are one pair of functions (ints, longs). A method's walk is a walk in V. -/
abbrev sM : Type := (Nat → Nat → Int32) × (Nat → Nat → Int64)
abbrev sK : Type := (Nat × List (Nat × Nat × Nat)) ⊕ (Nat × Nat × Option (Nat × Nat))
abbrev sR (ρ : Type) : Type := (ρ ⊕ String) × sM
def s_fv (ad : Nat → Nat) (m : sM) (a : Nat) (q : Nat × Nat × Nat) : Value :=
  if q.2.1 = 0 then .int (m.1 a q.1) else if q.2.1 = 1 then .long (m.2 a q.1) else .ref (ad q.2.2)
def s_ent (dA : Nat → ClassId) (ad : Nat → Nat) (m : sM) (a : Nat) (k : sK) : va_E := match k with
  | .inl q => .inr (q.1, q.2.map (s_fv ad m a))
  | .inr q => match q.2.2 with
    | none => .inl (dA q.1, q.2.1, if q.1 = 7 then .inr (.inl (m.2 a)) else .inl (m.1 a))
    | some r => .inl (dA q.1, q.2.1, .inr (.inr (.inr (.inr (fun j => some (ad (r.1 + r.2 * j)))))))
def s_w (dA : Nat → ClassId) (ad : Nat → Nat) (lo n : Nat) (m : sM) : va_W := (List.range' lo n).map fun a => (ad a, s_ent dA ad m a (sLay a))
def s_tys (dA : Nat → ClassId) : List (ClassId × FieldType) := [(dA 0, .int), (dA 1, .boolean), (dA 2, .char), (dA 3, .object "ShadowFile$Slot"), (dA 4, .object "ShadowFile$Changes"), (dA 5, .object "ShadowFile$Version"), (dA 6, .array .int), (dA 7, .long)]
def s_up (m : sM) (a k : Nat) (v : Int32) : sM := (fun b => if b = a then upd (m.1 a) k v else m.1 b, m.2)
def s_uL (m : sM) (a k : Nat) (v : Int64) : sM := (m.1, fun b => if b = a then vp_updL (m.2 a) k v else m.2 b)
def s_cp (m : sM) (a b sp dp n : Nat) : sM := (fun c => if c = b then va_cpy (m.1 a) (m.1 b) sp dp n else m.1 c, m.2)
def s_wf (k : sK) : Bool := match k with
  | .inl q => (q.2.zipIdx).all fun r => r.1.1 == r.2
  | .inr _ => true
theorem s_lay_wf : ∀ a, s_wf (sLay a) = true := by
  intro a
  by_cases h : a < sList.length
  · have h1 : sLay a = sList[a] := by unfold sLay; rw [List.getD_eq_getElem?_getD, List.getElem?_eq_getElem h]; rfl
    rw [h1]
    have h2 : sList.all s_wf = true := by decide +kernel
    exact List.all_eq_true.mp h2 _ (List.getElem_mem h)
  · have h1 : sLay a = .inr (0, 0, none) := by unfold sLay; rw [List.getD_eq_getElem?_getD, List.getElem?_eq_none (by omega)]; rfl
    rw [h1]; rfl
theorem s_at {dA : Nat → ClassId} {ad : Nat → Nat} {lo n : Nat} {m : sM} {a : Nat} (h : lo ≤ a ∧ a < lo + n) : (s_w dA ad lo n m)[a - lo]? = some (ad a, s_ent dA ad m a (sLay a)) := by
  unfold s_w
  rw [List.getElem?_map, List.getElem?_range' (by omega), show lo + 1 * (a - lo) = a by omega]
  rfl
theorem s_at' {dA : Nat → ClassId} {ad : Nat → Nat} {lo n : Nat} {m : sM} {k : Nat} {q : Nat × va_E} (h : (s_w dA ad lo n m)[k]? = some q) : k < n ∧ q = (ad (lo + k), s_ent dA ad m (lo + k) (sLay (lo + k))) := by
  have hk : k < n := by
    have := (List.getElem?_eq_some_iff.mp h).1
    simpa [s_w] using this
  refine ⟨hk, ?_⟩
  have h2 := s_at (dA := dA) (ad := ad) (lo := lo) (n := n) (m := m) (a := lo + k) ⟨by omega, by omega⟩
  rw [show lo + k - lo = k by omega] at h2
  exact Option.some.inj (h.symm.trans h2)
theorem s_ent_c {dA : Nat → ClassId} {ad : Nat → Nat} {m m' : sM} {a : Nat} (k : sK) (h1 : m'.1 a = m.1 a) (h2 : m'.2 a = m.2 a) : s_ent dA ad m' a k = s_ent dA ad m a k := by
  have hf : s_fv ad m' a = s_fv ad m a := by
    funext q
    unfold s_fv
    rw [h1, h2]
  cases k with
  | inl q => unfold s_ent; rw [hf]
  | inr q => unfold s_ent; rw [h1, h2]
theorem s_len {dA : Nat → ClassId} {ad : Nat → Nat} {lo n : Nat} {m : sM} : (s_w dA ad lo n m).length = n := by simp [s_w]
/-- one cell changes -/
theorem s_set {dA : Nat → ClassId} {ad : Nat → Nat} {lo n : Nat} {m m' : sM} {a : Nat} {e : va_E} (h : lo ≤ a ∧ a < lo + n) (h1 : ∀ b, b ≠ a → m'.1 b = m.1 b) (h2 : ∀ b, b ≠ a → m'.2 b = m.2 b) (he : s_ent dA ad m' a (sLay a) = e) : (s_w dA ad lo n m).set (a - lo) (ad a, e) = s_w dA ad lo n m' := by
  apply List.ext_getElem?
  intro k
  by_cases hk : k < n
  · have e1 := s_at (dA := dA) (ad := ad) (lo := lo) (n := n) (m := m') (a := lo + k) ⟨by omega, by omega⟩
    have e2 := s_at (dA := dA) (ad := ad) (lo := lo) (n := n) (m := m) (a := lo + k) ⟨by omega, by omega⟩
    rw [show lo + k - lo = k by omega] at e1 e2
    rw [e1]
    by_cases hka : k = a - lo
    · subst hka
      rw [List.getElem?_set_self (by rw [s_len]; omega), show lo + (a - lo) = a by omega, he]
    · rw [List.getElem?_set_ne (Ne.symm hka), e2, s_ent_c _ (h1 _ (by omega)) (h2 _ (by omega))]
  · rw [List.getElem?_eq_none (by rw [List.length_set, s_len]; omega), List.getElem?_eq_none (by rw [s_len]; omega)]
theorem s_up_ne {m : sM} {a k : Nat} {v : Int32} {b : Nat} (h : b ≠ a) : (s_up m a k v).1 b = m.1 b := if_neg h
theorem s_up_eq {m : sM} {a k : Nat} {v : Int32} : (s_up m a k v).1 a = upd (m.1 a) k v := if_pos rfl
theorem s_uL_ne {m : sM} {a k : Nat} {v : Int64} {b : Nat} (h : b ≠ a) : (s_uL m a k v).2 b = m.2 b := if_neg h
theorem s_uL_eq {m : sM} {a k : Nat} {v : Int64} : (s_uL m a k v).2 a = vp_updL (m.2 a) k v := if_pos rfl
theorem s_cp_ne {m : sM} {a b sp dp n c : Nat} (h : c ≠ b) : (s_cp m a b sp dp n).1 c = m.1 c := if_neg h
theorem s_cp_eq {m : sM} {a b sp dp n : Nat} : (s_cp m a b sp dp n).1 b = va_cpy (m.1 a) (m.1 b) sp dp n := if_pos rfl
/-- a field's place in the spec is its number -/
theorem s_idx {a ci : Nat} {fs : List (Nat × Nat × Nat)} (h : sLay a = .inl (ci, fs)) {j : Nat} {q : Nat × Nat × Nat} (hq : fs[j]? = some q) : q.1 = j := by
  have h1 := s_lay_wf a
  rw [h] at h1
  have h2 : (fs.zipIdx).all (fun r => r.1.1 == r.2) = true := h1
  have h3 : fs.zipIdx[j]? = some (q, j) := by
    rw [List.getElem?_zipIdx, hq]; simp
  have h4 := List.all_eq_true.mp h2 _ (List.mem_of_getElem? h3)
  simpa using h4
theorem s_ent_obj {dA : Nat → ClassId} {ad : Nat → Nat} {m : sM} {a ci : Nat} {fs : List (Nat × Nat × Nat)} (h : sLay a = .inl (ci, fs)) : s_ent dA ad m a (sLay a) = .inr (ci, fs.map (s_fv ad m a)) := by rw [h]; rfl
theorem s_put_i {dA : Nat → ClassId} {ad : Nat → Nat} {m : sM} {a ci k g : Nat} {fs : List (Nat × Nat × Nat)} {v : Int32} (h : sLay a = .inl (ci, fs)) (hk : fs[k]? = some (k, 0, g)) : s_ent dA ad (s_up m a k v) a (sLay a) = .inr (ci, (fs.map (s_fv ad m a)).set k (.int v)) := by
  rw [s_ent_obj h]
  congr 2
  apply List.ext_getElem?
  intro j
  by_cases hj : j = k
  · subst hj
    rw [List.getElem?_map, hk, List.getElem?_set_self (by rw [List.length_map]; exact (List.getElem?_eq_some_iff.mp hk).1)]
    simp [s_fv, s_up_eq, upd]
  · rw [List.getElem?_set_ne (Ne.symm hj), List.getElem?_map, List.getElem?_map]
    cases hq : fs[j]? with
    | none => rfl
    | some q =>
      have := s_idx h hq
      show some (s_fv ad (s_up m a k v) a q) = some (s_fv ad m a q)
      unfold s_fv
      rw [s_up_eq]
      have h9 : upd (m.1 a) k v q.1 = m.1 a q.1 := by unfold upd; rw [if_neg (by omega)]
      rw [h9]; rfl
theorem s_put_l {dA : Nat → ClassId} {ad : Nat → Nat} {m : sM} {a ci k g : Nat} {fs : List (Nat × Nat × Nat)} {v : Int64} (h : sLay a = .inl (ci, fs)) (hk : fs[k]? = some (k, 1, g)) : s_ent dA ad (s_uL m a k v) a (sLay a) = .inr (ci, (fs.map (s_fv ad m a)).set k (.long v)) := by
  rw [s_ent_obj h]
  congr 2
  apply List.ext_getElem?
  intro j
  by_cases hj : j = k
  · subst hj
    rw [List.getElem?_map, hk, List.getElem?_set_self (by rw [List.length_map]; exact (List.getElem?_eq_some_iff.mp hk).1)]
    simp [s_fv, s_uL_eq, vp_updL]
  · rw [List.getElem?_set_ne (Ne.symm hj), List.getElem?_map, List.getElem?_map]
    cases hq : fs[j]? with
    | none => rfl
    | some q =>
      have := s_idx h hq
      show some (s_fv ad (s_uL m a k v) a q) = some (s_fv ad m a q)
      unfold s_fv
      rw [s_uL_eq]
      have h9 : vp_updL (m.2 a) k v q.1 = m.2 a q.1 := by unfold vp_updL; rw [if_neg (by omega)]
      rw [h9]; rfl
def s_dec : List MethodName := [Bundle.initS "java/lang/RuntimeException", Bundle.initS "java/lang/Exception", Bundle.initS Bundle.tN]
/-- what of a state outlives calls and writes: nest links, text constants, casts, the two statics of Throwable -/
def s_E (A : Nat → Prop) (U : State) : Prop := (∀ q ∈ s_nest, va_Nw (.methodLinkNest q.1 q.2.1 q.2.2.1 q.2.2.2) U) ∧ (∀ q ∈ s_text, ∃ sa, vk_R q.1 q.2.1 q.2.2 sa U) ∧ (∀ X ∈ s_exc, va_Nw (.castable X X) U) ∧ (∀ x ∈ s_dec, va_Nw (.declares x) U) ∧ (∀ X ∈ s_exc, ∀ Y ∈ s_exc, X ≠ Y → va_Nc X Y U) ∧ vx_Zq Bundle.tN "UNASSIGNED_STACK" Bundle.steD A U U.heap ∧ vx_Zq Bundle.tN "SUPPRESSED_SENTINEL" Bundle.listD A U U.heap
theorem s_E.same {A : Nat → Prop} {u U : State} (hv : u.vm = U.vm) (hh : U.heap = u.heap) (h : s_E A u) : s_E A U := by
  obtain ⟨h1, h2, h3, h6, h7, h4, h5⟩ := h
  refine ⟨fun q hq => (h1 q hq).same rfl hv, fun q hq => ?_, fun X hX => (h3 X hX).same rfl hv, fun X hX => (h6 X hX).same rfl hv, fun X hX Y hY hne => va_Nc.moved (hv ▸ Vm.Alike.refl _) (h7 X hX Y hY hne), ?_, ?_⟩
  · obtain ⟨sa, h⟩ := h2 q hq
    exact ⟨sa, h.same hv.symm⟩
  · rw [hh]; exact vx_Zq.moved (hv ▸ Vm.Alike.refl _) h4
  · rw [hh]; exact vx_Zq.moved (hv ▸ Vm.Alike.refl _) h5
/-- from the method's start to a state at a call in it -/
theorem s_E.go {A A1 : Nat → Prop} {s U : State} {H : Heap} {locs : List Loc} (hW : s.WarmedH U.vm) (hS : va_S A s.heap H locs) (hU : U.heap = H) (hA : ∀ q, A1 q → A q) (h : s_E A s) : s_E A1 U := by
  obtain ⟨h1, h2, h3, h6, h7, h4, h5⟩ := h
  refine ⟨fun q hq => (h1 q hq).warmM hW, fun q hq => ?_, fun X hX => (h3 X hX).warmC hW, fun X hX => (h6 X hX).warmD hW, fun X hX Y hY hne => va_Nc.moved hW.alike (h7 X hX Y hY hne), ?_, ?_⟩
  · obtain ⟨sa, h⟩ := h2 q hq
    exact ⟨sa, h.warm hW⟩
  · rw [hU]; exact (vx_Zq.moved hW.alike (h4.kept hS.2.1)).narrow hA
  · rw [hU]; exact (vx_Zq.moved hW.alike (h5.kept hS.2.1)).narrow hA
def s_A (ad : Nat → Nat) (lo n sz : Nat) : Nat → Prop := fun q => (∃ a, lo ≤ a ∧ a < lo + n ∧ q = ad a) ∨ sz ≤ q
theorem s_A.le {ad : Nat → Nat} {lo n sz sz' : Nat} (h : sz ≤ sz') : ∀ q, s_A ad lo n sz' q → s_A ad lo n sz q := fun q hq => hq.elim Or.inl fun h' => Or.inr (Nat.le_trans h h')
theorem s_D_any {dA : Nat → ClassId} {ad : Nat → Nat} {lo n sz : Nat} {m : sM} {A : Nat → Prop} (h : va_D A (s_w dA ad lo n m)) : va_D (s_A ad lo n sz) (s_w dA ad lo n m) := ⟨h.1, fun k q hk => by
  obtain ⟨hk', rfl⟩ := s_at' hk
  exact Or.inl ⟨lo + k, by omega, by omega, rfl⟩⟩
def s_Pc (lo n : Nat) (dC : Nat → ClassId) (dI : Nat → Nat → Nat) (dA : Nat → ClassId) (ad : Nat → Nat) (av : List Value) (sz : Nat) (m : sM) : Array Value → State → Prop :=
  va_Pc av (fun U => U.heap.size = sz ∧ va_P (dC, dI) vwCl (s_w dA ad lo n m) U.heap ∧ va_K (dC, dI) vwCl (s_tys dA) U ∧ va_D (fun _ => True) (s_w dA ad lo n m) ∧ s_E (s_A ad lo n sz) U)
def s_B (lo n : Nat) (dC : Nat → ClassId) (dI : Nat → Nat → Nat) (dA : Nat → ClassId) (ad : Nat → Nat) (A : Nat → Prop) (m : sM) (t : State) : Prop := va_P (dC, dI) vwCl (s_w dA ad lo n m) t.heap ∧ va_D A (s_w dA ad lo n m)
def s_Q {ρ : Type} (enc : ρ → Option Value) (lo n : Nat) (dC : Nat → ClassId) (dI : Nat → Nat → Nat) (dA : Nat → ClassId) (ad : Nat → Nat) (A : Nat → Prop) (res : sR ρ) : Array Value → State → Outcome → State → Prop := fun _ st oc t => (∃ (r : ρ) (m' : sM), res = (.inl r, m') ∧ oc = .returned (enc r) ∧ s_B lo n dC dI dA ad A m' t) ∧ va_F A st t
def s_X {ρ : Type} (lo n : Nat) (dC : Nat → ClassId) (dI : Nat → Nat → Nat) (dA : Nat → ClassId) (ad : Nat → Nat) (A : Nat → Prop) (res : sR ρ) : String → State → State → Prop := fun E st t => ∃ m' : sM, res = (.inr E, m') ∧ s_B lo n dC dI dA ad A m' t ∧ va_F A st t
/-- a method's contract: what f says of the world it leaves, returns or throws -/
def s_Con {ρ : Type} (enc : ρ → Option Value) (lo n : Nat) (y : MethodName) (ws : List Cond) (fr lc b : Nat) (f : sM → Option (sR ρ)) (mk : (Nat → Nat) → List Value) : Prop :=
  ∀ (l : Launch) (_ : l.stackTraces = false) (dC : Nat → ClassId) (dI : Nat → Nat → Nat) (dA : Nat → ClassId) (ad : Nat → Nat) (sz : Nat) (m : sM) (res : sR ρ), f m = some res →
    vx_Met l y ws ({ frames := fr, cells := b, slots := 6 * b, locals := lc } : Room) (s_Pc lo n dC dI dA ad (mk ad) sz m) (s_Q enc lo n dC dI dA ad (s_A ad lo n sz) res) (s_X lo n dC dI dA ad (s_A ad lo n sz) res) b (6 * b) (s_A ad lo n sz)
abbrev sV : Type := Nat → Nat → List (Nat × Value) → List Value → sM → Prop
/-- V is the walk of one method's body, from its start in one launch, to the end that res tells -/
def sCX {ρ : Type} (enc : ρ → Option Value) (lo n : Nat) (ad : Nat → Nat) (n0 : Nat) (ad0 : Nat → Nat) (own : String) (cc : ByteArray) (nL : Nat) (ret : Option FieldType) (Ts : List Cond) (fr lc B : Nat) (res : sR ρ) (V : sV) : Prop :=
  ∃ (p : Program) (l : Launch) (e : Env) (s : State) (mi : MethodId) (args : Array Value) (below : List Frame) (meth : Method) (c : Code) (dC : Nat → ClassId) (dI : Nat → Nat → Nat) (dA : Nat → ClassId) (A : Nat → Prop),
    p.tables.exec = Jvm.exec ∧ c.code = cc ∧ c.maxLocals = nL ∧ s.vm.findClass own = some mi.cls ∧ (∀ w ∈ Ts, w.before args s = true) ∧ meth.sig.returnType = ret ∧ meth.locks = false ∧ (∀ x ∈ c.exceptionTable.toList, False) ∧ l.stackTraces = false ∧
    va_K (dC, dI) vwCl (s_tys dA) s ∧ (∀ q, s_A ad lo n s.heap.size q → A q) ∧ (∀ (m : sM) (H : Heap) (A : Nat → Prop), va_P (dC, dI) vwCl (s_w dA ad lo n m) H → va_D A (s_w dA ad lo n m) → va_P (dC, dI) vwCl (s_w dA ad0 lo n0 m) H ∧ va_D A (s_w dA ad0 lo n0 m)) ∧ s_E A s ∧
    V = fun b pc lv st m => ∀ (H : Heap) (locs : List Loc) (ls : Array Slot) (cells slots : Nat), cells + b ≤ B → slots + 6 * b ≤ 6 * B → va_P (dC, dI) vwCl (s_w dA ad lo n m) H → va_D A (s_w dA ad lo n m) → va_S A s.heap H locs → lv_has ls nL lv →
      W p l e ({ frames := fr, cells := B, slots := 6 * B, locals := lc } : Room) s mi args below meth c H locs cells slots (vx_MQ below (s_Q enc lo n0 dC dI dA ad0 A res) (s_X lo n0 dC dI dA ad0 A res) args s B (6 * B) A) (F0 mi pc ls st)

theorem s_con_of {ρ : Type} {enc : ρ → Option Value} {lo n : Nat} {y : MethodName} {ws ws' : List Cond} {fr lc b : Nat} {f : sM → Option (sR ρ)} {mk : (Nat → Nat) → List Value} (cc : ByteArray) (nL : Nat) (ret : Option FieldType) (own : String) (hy : plainName y.cls = true) (hown9 : y.cls = own) (hw : ws = Cond.code y cc nL ret :: ws') (hn : ∀ ad, (lg_sl (mk ad)).length ≤ nL)
    (body : ∀ (ad : Nat → Nat) (m : sM) (res : sR ρ) (V : sV), sCX enc lo n ad n ad own cc nL ret ws fr lc b res V → f m = some res → V b 0 (lv_args 0 (mk ad)) [] m) : s_Con enc lo n y ws fr lc b f mk := by
  subst hown9
  intro l hst dC dI dA ad sz m res hf
  refine vx_ofW (cc := cc) (maxL := nL) (ret := ret) hy hw ?_
  intro p e s mi args below meth c s₁ B hml hno hv
  obtain ⟨rfl, hsz, hP, hK, hD0, hE⟩ := hv
  subst hsz
  have hD : va_D (s_A ad lo n s.heap.size) (s_w dA ad lo n m) := s_D_any hD0
  have hl := lv_entry (mk ad) (n := nL) (hn ad)
  rw [lg_entry_eq]
  exact body ad m res _ ⟨p, l, e, s, mi, _, below, meth, c, dC, dI, dA, s_A ad lo n s.heap.size, B.exec, B.bytes, hml, findClass_of_methodNamed B.named, atoms_spec (ws := ws) B.pre, B.returns, B.notSynchronized, hno, hst, hK, fun _ h => h, fun _ _ _ h1 h2 => ⟨h1, h2⟩, hE, rfl⟩ hf s.heap [] _ 0 0 (Nat.le_of_eq (Nat.zero_add b)) (Nat.le_of_eq (Nat.zero_add _)) hP hD va_S.rf hl
theorem s_pos {α : Type} {c : Prop} {i : Decidable c} {x y : α} {r : α} (hc : c) (h : @ite α c i x y = r) : x = r := by rw [if_pos hc] at h; exact h
theorem s_neg {α : Type} {c : Prop} {i : Decidable c} {x y : α} {r : α} (hc : ¬ c) (h : @ite α c i x y = r) : y = r := by rw [if_neg hc] at h; exact h
/-- a guard: what the machine itself would throw at -/
noncomputable def s_gd {α : Type} (P : Prop) (x : Option α) : Option α := @ite _ P (Classical.propDecidable P) x none
theorem s_gd_of {α : Type} {P : Prop} {x : Option α} {r : α} (h : s_gd P x = some r) : P ∧ x = some r := by
  unfold s_gd at h
  by_cases hP : P
  · rw [if_pos hP] at h; exact ⟨hP, h⟩
  · rw [if_neg hP] at h; cases h
theorem s_gd_t {α : Type} {P : Prop} {x : Option α} (h : P) : s_gd P x = x := if_pos h
/-- an index -/
noncomputable def s_ix {α : Type} (i : Int32) (n : Nat) (k : Nat → Option α) : Option α := s_gd (vp_in i n) (k i.toNatClampNeg)
theorem s_ix_t {α : Type} {j n : Nat} {k : Nat → Option α} (h : j < n) (hn : n < 2 ^ 31) : s_ix (nI j) n k = k j := by
  unfold s_ix
  rw [s_gd_t (vp_in_nI h hn), nI_clamp (by omega)]
def s_md {α : Type} (x : sM) (k : sM → Option α) : Option α := k x
def s_jn {α κ : Type} (F : κ) (k : κ → Option α) : Option α := k F
def s_bd {α β : Type} (x : Option (sR α)) (k : α → sM → Option (sR β)) : Option (sR β) := match x with
  | none => none
  | some (.inl r, m) => k r m
  | some (.inr E, m) => some (.inr E, m)
theorem s_bd_l {α β : Type} {x : Option (sR α)} {k : α → sM → Option (sR β)} {r : α} {m : sM} (h : x = some (.inl r, m)) : s_bd x k = k r m := by rw [h]; rfl
theorem s_bd_r {α β : Type} {x : Option (sR α)} {k : α → sM → Option (sR β)} {E : String} {m : sM} (h : x = some (.inr E, m)) : s_bd x k = some (.inr E, m) := by rw [h]; rfl
def s_lushr (x : Int64) (y : Int32) : Int64 := (x.toUInt64 >>> (y.toInt64.toUInt64 &&& Int64.toUInt64 63)).toInt64
def s_lshl (x : Int64) (y : Int32) : Int64 := x <<< (y.toInt64 &&& 63)
def s_i2c (x : Int32) : Int32 := (x.toUInt32 % 65536).toInt32
def s_i (r : Int32) : Option Value := some (.int r)
def s_l (r : Int64) : Option Value := some (.long r)
def s_u (_ : Unit) : Option Value := none
theorem s_z {x : Int32} (h : x = 0 ∨ x = 1) : narrow .boolean (.int x) = .int x := by
  rcases h with rfl | rfl <;> rfl
theorem s_zf {x : Int32} (h : x = 0 ∨ x = 1) : fits .boolean (.int x) = true := by
  rcases h with rfl | rfl <;> rfl
theorem s_join {κ α : Type} {F : κ} {k : κ → Option α} {r : α} {G : Prop} (h : s_jn F k = some r) (P : κ → Prop) (hP : P F) (g : ∀ j, P j → k j = some r → G) : G := g F hP h

theorem r_iconst {ρ : Type} {enc : ρ → Option Value} {lo n : Nat} {ad : Nat → Nat} {n0 : Nat} {ad0 : Nat → Nat} {own : String} {cc : ByteArray} {nL : Nat} {ret : Option FieldType} {Ts : List Cond} {fr lc B : Nat} {res : sR ρ} {V : sV} (C : sCX enc lo n ad n0 ad0 own cc nL ret Ts fr lc B res V) {b pc : Nat} {lv : List (Nat × Value)} {st : List Value} {m : sM} {i : Int} {v : Int32} (hd : decode cc pc = .ok (.iconst i, 1)) (hv : Int32.ofInt i = v) (k : V b (pc + 1) lv (.int v :: st) m) : V b pc lv (st) m := by
  obtain ⟨p, l, e, s, mi, args, below, meth, c, dC, dI, dA, A, hx, hb, hml, hown, hts, hr, hlocks, hno, hst, hK, hA1, hpw, hE, rfl⟩ := C
  intro H locs ls cells slots hc hs hP hD hS hl
  exact lv_iconst hx hb hd hv (k H locs ls cells slots hc hs hP hD hS hl)
theorem r_bipush {ρ : Type} {enc : ρ → Option Value} {lo n : Nat} {ad : Nat → Nat} {n0 : Nat} {ad0 : Nat → Nat} {own : String} {cc : ByteArray} {nL : Nat} {ret : Option FieldType} {Ts : List Cond} {fr lc B : Nat} {res : sR ρ} {V : sV} (C : sCX enc lo n ad n0 ad0 own cc nL ret Ts fr lc B res V) {b pc : Nat} {lv : List (Nat × Value)} {st : List Value} {m : sM} {i : Int} {v : Int32} (hd : decode cc pc = .ok (.bipush i, 2)) (hv : (Int8.ofInt i).toInt32 = v) (k : V b (pc + 2) lv (.int v :: st) m) : V b pc lv (st) m := by
  obtain ⟨p, l, e, s, mi, args, below, meth, c, dC, dI, dA, A, hx, hb, hml, hown, hts, hr, hlocks, hno, hst, hK, hA1, hpw, hE, rfl⟩ := C
  intro H locs ls cells slots hc hs hP hD hS hl
  exact lv_bipush hx hb hd hv (k H locs ls cells slots hc hs hP hD hS hl)
theorem r_sipush {ρ : Type} {enc : ρ → Option Value} {lo n : Nat} {ad : Nat → Nat} {n0 : Nat} {ad0 : Nat → Nat} {own : String} {cc : ByteArray} {nL : Nat} {ret : Option FieldType} {Ts : List Cond} {fr lc B : Nat} {res : sR ρ} {V : sV} (C : sCX enc lo n ad n0 ad0 own cc nL ret Ts fr lc B res V) {b pc : Nat} {lv : List (Nat × Value)} {st : List Value} {m : sM} {i : Int} {v : Int32} (hd : decode cc pc = .ok (.sipush i, 3)) (hv : (Int16.ofInt i).toInt32 = v) (k : V b (pc + 3) lv (.int v :: st) m) : V b pc lv (st) m := by
  obtain ⟨p, l, e, s, mi, args, below, meth, c, dC, dI, dA, A, hx, hb, hml, hown, hts, hr, hlocks, hno, hst, hK, hA1, hpw, hE, rfl⟩ := C
  intro H locs ls cells slots hc hs hP hD hS hl
  exact lv_sipush hx hb hd hv (k H locs ls cells slots hc hs hP hD hS hl)
theorem r_lconst {ρ : Type} {enc : ρ → Option Value} {lo n : Nat} {ad : Nat → Nat} {n0 : Nat} {ad0 : Nat → Nat} {own : String} {cc : ByteArray} {nL : Nat} {ret : Option FieldType} {Ts : List Cond} {fr lc B : Nat} {res : sR ρ} {V : sV} (C : sCX enc lo n ad n0 ad0 own cc nL ret Ts fr lc B res V) {b pc : Nat} {lv : List (Nat × Value)} {st : List Value} {m : sM} {i : Fin 2} {v : Int64} (hd : decode cc pc = .ok (.lconst i, 1)) (hv : Int64.ofNat (i : Nat) = v) (k : V b (pc + 1) lv (.long v :: st) m) : V b pc lv (st) m := by
  obtain ⟨p, l, e, s, mi, args, below, meth, c, dC, dI, dA, A, hx, hb, hml, hown, hts, hr, hlocks, hno, hst, hK, hA1, hpw, hE, rfl⟩ := C
  intro H locs ls cells slots hc hs hP hD hS hl
  exact lv_lconst hx hb hd hv (k H locs ls cells slots hc hs hP hD hS hl)
theorem r_iload_n {ρ : Type} {enc : ρ → Option Value} {lo n : Nat} {ad : Nat → Nat} {n0 : Nat} {ad0 : Nat → Nat} {own : String} {cc : ByteArray} {nL : Nat} {ret : Option FieldType} {Ts : List Cond} {fr lc B : Nat} {res : sR ρ} {V : sV} (C : sCX enc lo n ad n0 ad0 own cc nL ret Ts fr lc B res V) {b pc : Nat} {lv : List (Nat × Value)} {st : List Value} {m : sM} {q : Fin 4} {i : Nat} {x : Int32} (hd : decode cc pc = .ok (.iload_n q, 1)) (hi : (q : Nat) = i) (kk : Nat) (hv : lv[kk]? = some (i, .int x)) (k : V b (pc + 1) lv (.int x :: st) m) : V b pc lv st m := by
  obtain ⟨p, l, e, s, mi, args, below, meth, c, dC, dI, dA, A, hx, hb, hml, hown, hts, hr, hlocks, hno, hst, hK, hA1, hpw, hE, rfl⟩ := C
  intro H locs ls cells slots hc hs hP hD hS hl
  exact lv_iload_n hx hb hd hi (lv_at hl kk hv) (k H locs ls cells slots hc hs hP hD hS hl)
theorem r_iload {ρ : Type} {enc : ρ → Option Value} {lo n : Nat} {ad : Nat → Nat} {n0 : Nat} {ad0 : Nat → Nat} {own : String} {cc : ByteArray} {nL : Nat} {ret : Option FieldType} {Ts : List Cond} {fr lc B : Nat} {res : sR ρ} {V : sV} (C : sCX enc lo n ad n0 ad0 own cc nL ret Ts fr lc B res V) {b pc : Nat} {lv : List (Nat × Value)} {st : List Value} {m : sM} {i : Nat} {x : Int32} (hd : decode cc pc = .ok (.iload i, 2)) (kk : Nat) (hv : lv[kk]? = some (i, .int x)) (k : V b (pc + 2) lv (.int x :: st) m) : V b pc lv st m := by
  obtain ⟨p, l, e, s, mi, args, below, meth, c, dC, dI, dA, A, hx, hb, hml, hown, hts, hr, hlocks, hno, hst, hK, hA1, hpw, hE, rfl⟩ := C
  intro H locs ls cells slots hc hs hP hD hS hl
  exact lv_iload hx hb hd (lv_at hl kk hv) (k H locs ls cells slots hc hs hP hD hS hl)
theorem r_lload_n {ρ : Type} {enc : ρ → Option Value} {lo n : Nat} {ad : Nat → Nat} {n0 : Nat} {ad0 : Nat → Nat} {own : String} {cc : ByteArray} {nL : Nat} {ret : Option FieldType} {Ts : List Cond} {fr lc B : Nat} {res : sR ρ} {V : sV} (C : sCX enc lo n ad n0 ad0 own cc nL ret Ts fr lc B res V) {b pc : Nat} {lv : List (Nat × Value)} {st : List Value} {m : sM} {q : Fin 4} {i : Nat} {x : Int64} (hd : decode cc pc = .ok (.lload_n q, 1)) (hi : (q : Nat) = i) (kk : Nat) (hv : lv[kk]? = some (i, .long x)) (k : V b (pc + 1) lv (.long x :: st) m) : V b pc lv st m := by
  obtain ⟨p, l, e, s, mi, args, below, meth, c, dC, dI, dA, A, hx, hb, hml, hown, hts, hr, hlocks, hno, hst, hK, hA1, hpw, hE, rfl⟩ := C
  intro H locs ls cells slots hc hs hP hD hS hl
  exact lv_lload_n hx hb hd hi (lv_at hl kk hv) (k H locs ls cells slots hc hs hP hD hS hl)
theorem r_lload {ρ : Type} {enc : ρ → Option Value} {lo n : Nat} {ad : Nat → Nat} {n0 : Nat} {ad0 : Nat → Nat} {own : String} {cc : ByteArray} {nL : Nat} {ret : Option FieldType} {Ts : List Cond} {fr lc B : Nat} {res : sR ρ} {V : sV} (C : sCX enc lo n ad n0 ad0 own cc nL ret Ts fr lc B res V) {b pc : Nat} {lv : List (Nat × Value)} {st : List Value} {m : sM} {i : Nat} {x : Int64} (hd : decode cc pc = .ok (.lload i, 2)) (kk : Nat) (hv : lv[kk]? = some (i, .long x)) (k : V b (pc + 2) lv (.long x :: st) m) : V b pc lv st m := by
  obtain ⟨p, l, e, s, mi, args, below, meth, c, dC, dI, dA, A, hx, hb, hml, hown, hts, hr, hlocks, hno, hst, hK, hA1, hpw, hE, rfl⟩ := C
  intro H locs ls cells slots hc hs hP hD hS hl
  exact lv_lload hx hb hd (lv_at hl kk hv) (k H locs ls cells slots hc hs hP hD hS hl)
theorem r_aload_n {ρ : Type} {enc : ρ → Option Value} {lo n : Nat} {ad : Nat → Nat} {n0 : Nat} {ad0 : Nat → Nat} {own : String} {cc : ByteArray} {nL : Nat} {ret : Option FieldType} {Ts : List Cond} {fr lc B : Nat} {res : sR ρ} {V : sV} (C : sCX enc lo n ad n0 ad0 own cc nL ret Ts fr lc B res V) {b pc : Nat} {lv : List (Nat × Value)} {st : List Value} {m : sM} {q : Fin 4} {i : Nat} {x : Nat} (hd : decode cc pc = .ok (.aload_n q, 1)) (hi : (q : Nat) = i) (kk : Nat) (hv : lv[kk]? = some (i, .ref x)) (k : V b (pc + 1) lv (.ref x :: st) m) : V b pc lv st m := by
  obtain ⟨p, l, e, s, mi, args, below, meth, c, dC, dI, dA, A, hx, hb, hml, hown, hts, hr, hlocks, hno, hst, hK, hA1, hpw, hE, rfl⟩ := C
  intro H locs ls cells slots hc hs hP hD hS hl
  exact lv_aload_n hx hb hd hi (lv_at hl kk hv) (k H locs ls cells slots hc hs hP hD hS hl)
theorem r_aload {ρ : Type} {enc : ρ → Option Value} {lo n : Nat} {ad : Nat → Nat} {n0 : Nat} {ad0 : Nat → Nat} {own : String} {cc : ByteArray} {nL : Nat} {ret : Option FieldType} {Ts : List Cond} {fr lc B : Nat} {res : sR ρ} {V : sV} (C : sCX enc lo n ad n0 ad0 own cc nL ret Ts fr lc B res V) {b pc : Nat} {lv : List (Nat × Value)} {st : List Value} {m : sM} {i : Nat} {x : Nat} (hd : decode cc pc = .ok (.aload i, 2)) (kk : Nat) (hv : lv[kk]? = some (i, .ref x)) (k : V b (pc + 2) lv (.ref x :: st) m) : V b pc lv st m := by
  obtain ⟨p, l, e, s, mi, args, below, meth, c, dC, dI, dA, A, hx, hb, hml, hown, hts, hr, hlocks, hno, hst, hK, hA1, hpw, hE, rfl⟩ := C
  intro H locs ls cells slots hc hs hP hD hS hl
  exact lv_aload hx hb hd (lv_at hl kk hv) (k H locs ls cells slots hc hs hP hD hS hl)
theorem r_istore_n {ρ : Type} {enc : ρ → Option Value} {lo n : Nat} {ad : Nat → Nat} {n0 : Nat} {ad0 : Nat → Nat} {own : String} {cc : ByteArray} {nL : Nat} {ret : Option FieldType} {Ts : List Cond} {fr lc B : Nat} {res : sR ρ} {V : sV} (C : sCX enc lo n ad n0 ad0 own cc nL ret Ts fr lc B res V) {b pc : Nat} {lv : List (Nat × Value)} {st : List Value} {m : sM} {q : Fin 4} {i : Nat} {x : Int32} {lv' : List (Nat × Value)} (hd : decode cc pc = .ok (.istore_n q, 1)) (hi : (q : Nat) = i) (hn : i < nL) (hv : (i, Value.int x) :: lv.filter (fun q => !(q.1 == i) && !(q.1 + 1 == i && q.2.category == 2)) = lv') (k : V b (pc + 1) lv' st m) : V b pc lv (.int x :: st) m := by
  obtain ⟨p, l, e, s, mi, args, below, meth, c, dC, dI, dA, A, hx, hb, hml, hown, hts, hr, hlocks, hno, hst, hK, hA1, hpw, hE, rfl⟩ := C
  intro H locs ls cells slots hc hs hP hD hS hl
  exact lv_istore_n hx hb hd hi hl hn hv (fun ls hl => k H locs ls cells slots hc hs hP hD hS hl)
theorem r_istore {ρ : Type} {enc : ρ → Option Value} {lo n : Nat} {ad : Nat → Nat} {n0 : Nat} {ad0 : Nat → Nat} {own : String} {cc : ByteArray} {nL : Nat} {ret : Option FieldType} {Ts : List Cond} {fr lc B : Nat} {res : sR ρ} {V : sV} (C : sCX enc lo n ad n0 ad0 own cc nL ret Ts fr lc B res V) {b pc : Nat} {lv : List (Nat × Value)} {st : List Value} {m : sM} {i : Nat} {x : Int32} {lv' : List (Nat × Value)} (hd : decode cc pc = .ok (.istore i, 2)) (hn : i < nL) (hv : (i, Value.int x) :: lv.filter (fun q => !(q.1 == i) && !(q.1 + 1 == i && q.2.category == 2)) = lv') (k : V b (pc + 2) lv' st m) : V b pc lv (.int x :: st) m := by
  obtain ⟨p, l, e, s, mi, args, below, meth, c, dC, dI, dA, A, hx, hb, hml, hown, hts, hr, hlocks, hno, hst, hK, hA1, hpw, hE, rfl⟩ := C
  intro H locs ls cells slots hc hs hP hD hS hl
  exact lv_istore hx hb hd hl hn hv (fun ls hl => k H locs ls cells slots hc hs hP hD hS hl)
theorem r_astore_n {ρ : Type} {enc : ρ → Option Value} {lo n : Nat} {ad : Nat → Nat} {n0 : Nat} {ad0 : Nat → Nat} {own : String} {cc : ByteArray} {nL : Nat} {ret : Option FieldType} {Ts : List Cond} {fr lc B : Nat} {res : sR ρ} {V : sV} (C : sCX enc lo n ad n0 ad0 own cc nL ret Ts fr lc B res V) {b pc : Nat} {lv : List (Nat × Value)} {st : List Value} {m : sM} {q : Fin 4} {i : Nat} {x : Nat} {lv' : List (Nat × Value)} (hd : decode cc pc = .ok (.astore_n q, 1)) (hi : (q : Nat) = i) (hn : i < nL) (hv : (i, Value.ref x) :: lv.filter (fun q => !(q.1 == i) && !(q.1 + 1 == i && q.2.category == 2)) = lv') (k : V b (pc + 1) lv' st m) : V b pc lv (.ref x :: st) m := by
  obtain ⟨p, l, e, s, mi, args, below, meth, c, dC, dI, dA, A, hx, hb, hml, hown, hts, hr, hlocks, hno, hst, hK, hA1, hpw, hE, rfl⟩ := C
  intro H locs ls cells slots hc hs hP hD hS hl
  exact lv_astore_n hx hb hd hi hl hn hv (fun ls hl => k H locs ls cells slots hc hs hP hD hS hl)
theorem r_astore {ρ : Type} {enc : ρ → Option Value} {lo n : Nat} {ad : Nat → Nat} {n0 : Nat} {ad0 : Nat → Nat} {own : String} {cc : ByteArray} {nL : Nat} {ret : Option FieldType} {Ts : List Cond} {fr lc B : Nat} {res : sR ρ} {V : sV} (C : sCX enc lo n ad n0 ad0 own cc nL ret Ts fr lc B res V) {b pc : Nat} {lv : List (Nat × Value)} {st : List Value} {m : sM} {i : Nat} {x : Nat} {lv' : List (Nat × Value)} (hd : decode cc pc = .ok (.astore i, 2)) (hn : i < nL) (hv : (i, Value.ref x) :: lv.filter (fun q => !(q.1 == i) && !(q.1 + 1 == i && q.2.category == 2)) = lv') (k : V b (pc + 2) lv' st m) : V b pc lv (.ref x :: st) m := by
  obtain ⟨p, l, e, s, mi, args, below, meth, c, dC, dI, dA, A, hx, hb, hml, hown, hts, hr, hlocks, hno, hst, hK, hA1, hpw, hE, rfl⟩ := C
  intro H locs ls cells slots hc hs hP hD hS hl
  exact lv_astore hx hb hd hl hn hv (fun ls hl => k H locs ls cells slots hc hs hP hD hS hl)
theorem r_lstore_n {ρ : Type} {enc : ρ → Option Value} {lo n : Nat} {ad : Nat → Nat} {n0 : Nat} {ad0 : Nat → Nat} {own : String} {cc : ByteArray} {nL : Nat} {ret : Option FieldType} {Ts : List Cond} {fr lc B : Nat} {res : sR ρ} {V : sV} (C : sCX enc lo n ad n0 ad0 own cc nL ret Ts fr lc B res V) {b pc : Nat} {lv : List (Nat × Value)} {st : List Value} {m : sM} {q : Fin 4} {i : Nat} {x : Int64} {lv' : List (Nat × Value)} (hd : decode cc pc = .ok (.lstore_n q, 1)) (hi : (q : Nat) = i) (hn : i + 1 < nL) (hv : (i, Value.long x) :: lv.filter (fun q => !(q.1 == i) && (!(q.1 == i + 1) && !(q.1 + 1 == i && q.2.category == 2))) = lv') (k : V b (pc + 1) lv' st m) : V b pc lv (.long x :: st) m := by
  obtain ⟨p, l, e, s, mi, args, below, meth, c, dC, dI, dA, A, hx, hb, hml, hown, hts, hr, hlocks, hno, hst, hK, hA1, hpw, hE, rfl⟩ := C
  intro H locs ls cells slots hc hs hP hD hS hl
  exact lv_lstore_n hx hb hd hi hl hn hv (fun ls hl => k H locs ls cells slots hc hs hP hD hS hl)
theorem r_lstore {ρ : Type} {enc : ρ → Option Value} {lo n : Nat} {ad : Nat → Nat} {n0 : Nat} {ad0 : Nat → Nat} {own : String} {cc : ByteArray} {nL : Nat} {ret : Option FieldType} {Ts : List Cond} {fr lc B : Nat} {res : sR ρ} {V : sV} (C : sCX enc lo n ad n0 ad0 own cc nL ret Ts fr lc B res V) {b pc : Nat} {lv : List (Nat × Value)} {st : List Value} {m : sM} {i : Nat} {x : Int64} {lv' : List (Nat × Value)} (hd : decode cc pc = .ok (.lstore i, 2)) (hn : i + 1 < nL) (hv : (i, Value.long x) :: lv.filter (fun q => !(q.1 == i) && (!(q.1 == i + 1) && !(q.1 + 1 == i && q.2.category == 2))) = lv') (k : V b (pc + 2) lv' st m) : V b pc lv (.long x :: st) m := by
  obtain ⟨p, l, e, s, mi, args, below, meth, c, dC, dI, dA, A, hx, hb, hml, hown, hts, hr, hlocks, hno, hst, hK, hA1, hpw, hE, rfl⟩ := C
  intro H locs ls cells slots hc hs hP hD hS hl
  exact lv_lstore hx hb hd hl hn hv (fun ls hl => k H locs ls cells slots hc hs hP hD hS hl)
theorem r_iinc {ρ : Type} {enc : ρ → Option Value} {lo n : Nat} {ad : Nat → Nat} {n0 : Nat} {ad0 : Nat → Nat} {own : String} {cc : ByteArray} {nL : Nat} {ret : Option FieldType} {Ts : List Cond} {fr lc B : Nat} {res : sR ρ} {V : sV} (C : sCX enc lo n ad n0 ad0 own cc nL ret Ts fr lc B res V) {b pc : Nat} {lv : List (Nat × Value)} {st : List Value} {m : sM} {i : Nat} {z : Int} {x v : Int32} {lv' : List (Nat × Value)} (hd : decode cc pc = .ok (.iinc i z, 3)) (kk : Nat) (hk : lv[kk]? = some (i, .int x)) (hz : x + Int32.ofInt z = v) (hn : i < nL) (hv : (i, Value.int v) :: lv.filter (fun q => !(q.1 == i) && !(q.1 + 1 == i && q.2.category == 2)) = lv') (k : V b (pc + 3) lv' st m) : V b pc lv st m := by
  obtain ⟨p, l, e, s, mi, args, below, meth, c, dC, dI, dA, A, hx, hb, hml, hown, hts, hr, hlocks, hno, hst, hK, hA1, hpw, hE, rfl⟩ := C
  intro H locs ls cells slots hc hs hP hD hS hl
  exact lv_iinc hx hb hd hl hk hz hn hv (fun ls hl => k H locs ls cells slots hc hs hP hD hS hl)
theorem r_iadd {ρ : Type} {enc : ρ → Option Value} {lo n : Nat} {ad : Nat → Nat} {n0 : Nat} {ad0 : Nat → Nat} {own : String} {cc : ByteArray} {nL : Nat} {ret : Option FieldType} {Ts : List Cond} {fr lc B : Nat} {res : sR ρ} {V : sV} (C : sCX enc lo n ad n0 ad0 own cc nL ret Ts fr lc B res V) {b pc : Nat} {lv : List (Nat × Value)} {st : List Value} {m : sM} {x y : Int32} (hd : decode cc pc = .ok (.iadd, 1))  (k : V b (pc + 1) lv (.int (x + y) :: st) m) : V b pc lv (.int y :: .int x :: st) m := by
  obtain ⟨p, l, e, s, mi, args, below, meth, c, dC, dI, dA, A, hx, hb, hml, hown, hts, hr, hlocks, hno, hst, hK, hA1, hpw, hE, rfl⟩ := C
  intro H locs ls cells slots hc hs hP hD hS hl
  exact lv_iadd hx hb hd  (k H locs ls cells slots hc hs hP hD hS hl)
theorem r_isub {ρ : Type} {enc : ρ → Option Value} {lo n : Nat} {ad : Nat → Nat} {n0 : Nat} {ad0 : Nat → Nat} {own : String} {cc : ByteArray} {nL : Nat} {ret : Option FieldType} {Ts : List Cond} {fr lc B : Nat} {res : sR ρ} {V : sV} (C : sCX enc lo n ad n0 ad0 own cc nL ret Ts fr lc B res V) {b pc : Nat} {lv : List (Nat × Value)} {st : List Value} {m : sM} {x y : Int32} (hd : decode cc pc = .ok (.isub, 1))  (k : V b (pc + 1) lv (.int (x - y) :: st) m) : V b pc lv (.int y :: .int x :: st) m := by
  obtain ⟨p, l, e, s, mi, args, below, meth, c, dC, dI, dA, A, hx, hb, hml, hown, hts, hr, hlocks, hno, hst, hK, hA1, hpw, hE, rfl⟩ := C
  intro H locs ls cells slots hc hs hP hD hS hl
  exact lv_isub hx hb hd  (k H locs ls cells slots hc hs hP hD hS hl)
theorem r_imul {ρ : Type} {enc : ρ → Option Value} {lo n : Nat} {ad : Nat → Nat} {n0 : Nat} {ad0 : Nat → Nat} {own : String} {cc : ByteArray} {nL : Nat} {ret : Option FieldType} {Ts : List Cond} {fr lc B : Nat} {res : sR ρ} {V : sV} (C : sCX enc lo n ad n0 ad0 own cc nL ret Ts fr lc B res V) {b pc : Nat} {lv : List (Nat × Value)} {st : List Value} {m : sM} {x y : Int32} (hd : decode cc pc = .ok (.imul, 1))  (k : V b (pc + 1) lv (.int (x * y) :: st) m) : V b pc lv (.int y :: .int x :: st) m := by
  obtain ⟨p, l, e, s, mi, args, below, meth, c, dC, dI, dA, A, hx, hb, hml, hown, hts, hr, hlocks, hno, hst, hK, hA1, hpw, hE, rfl⟩ := C
  intro H locs ls cells slots hc hs hP hD hS hl
  exact lv_imul hx hb hd  (k H locs ls cells slots hc hs hP hD hS hl)
theorem r_iand {ρ : Type} {enc : ρ → Option Value} {lo n : Nat} {ad : Nat → Nat} {n0 : Nat} {ad0 : Nat → Nat} {own : String} {cc : ByteArray} {nL : Nat} {ret : Option FieldType} {Ts : List Cond} {fr lc B : Nat} {res : sR ρ} {V : sV} (C : sCX enc lo n ad n0 ad0 own cc nL ret Ts fr lc B res V) {b pc : Nat} {lv : List (Nat × Value)} {st : List Value} {m : sM} {x y : Int32} (hd : decode cc pc = .ok (.iand, 1))  (k : V b (pc + 1) lv (.int (x &&& y) :: st) m) : V b pc lv (.int y :: .int x :: st) m := by
  obtain ⟨p, l, e, s, mi, args, below, meth, c, dC, dI, dA, A, hx, hb, hml, hown, hts, hr, hlocks, hno, hst, hK, hA1, hpw, hE, rfl⟩ := C
  intro H locs ls cells slots hc hs hP hD hS hl
  exact lv_iand hx hb hd  (k H locs ls cells slots hc hs hP hD hS hl)
theorem r_ior {ρ : Type} {enc : ρ → Option Value} {lo n : Nat} {ad : Nat → Nat} {n0 : Nat} {ad0 : Nat → Nat} {own : String} {cc : ByteArray} {nL : Nat} {ret : Option FieldType} {Ts : List Cond} {fr lc B : Nat} {res : sR ρ} {V : sV} (C : sCX enc lo n ad n0 ad0 own cc nL ret Ts fr lc B res V) {b pc : Nat} {lv : List (Nat × Value)} {st : List Value} {m : sM} {x y : Int32} (hd : decode cc pc = .ok (.ior, 1))  (k : V b (pc + 1) lv (.int (x ||| y) :: st) m) : V b pc lv (.int y :: .int x :: st) m := by
  obtain ⟨p, l, e, s, mi, args, below, meth, c, dC, dI, dA, A, hx, hb, hml, hown, hts, hr, hlocks, hno, hst, hK, hA1, hpw, hE, rfl⟩ := C
  intro H locs ls cells slots hc hs hP hD hS hl
  exact lv_ior hx hb hd  (k H locs ls cells slots hc hs hP hD hS hl)
theorem r_ixor {ρ : Type} {enc : ρ → Option Value} {lo n : Nat} {ad : Nat → Nat} {n0 : Nat} {ad0 : Nat → Nat} {own : String} {cc : ByteArray} {nL : Nat} {ret : Option FieldType} {Ts : List Cond} {fr lc B : Nat} {res : sR ρ} {V : sV} (C : sCX enc lo n ad n0 ad0 own cc nL ret Ts fr lc B res V) {b pc : Nat} {lv : List (Nat × Value)} {st : List Value} {m : sM} {x y : Int32} (hd : decode cc pc = .ok (.ixor, 1))  (k : V b (pc + 1) lv (.int (x ^^^ y) :: st) m) : V b pc lv (.int y :: .int x :: st) m := by
  obtain ⟨p, l, e, s, mi, args, below, meth, c, dC, dI, dA, A, hx, hb, hml, hown, hts, hr, hlocks, hno, hst, hK, hA1, hpw, hE, rfl⟩ := C
  intro H locs ls cells slots hc hs hP hD hS hl
  exact lv_ixor hx hb hd  (k H locs ls cells slots hc hs hP hD hS hl)
theorem r_ishl {ρ : Type} {enc : ρ → Option Value} {lo n : Nat} {ad : Nat → Nat} {n0 : Nat} {ad0 : Nat → Nat} {own : String} {cc : ByteArray} {nL : Nat} {ret : Option FieldType} {Ts : List Cond} {fr lc B : Nat} {res : sR ρ} {V : sV} (C : sCX enc lo n ad n0 ad0 own cc nL ret Ts fr lc B res V) {b pc : Nat} {lv : List (Nat × Value)} {st : List Value} {m : sM} {x y : Int32} (hd : decode cc pc = .ok (.ishl, 1))  (k : V b (pc + 1) lv (.int (x <<< (y &&& 31)) :: st) m) : V b pc lv (.int y :: .int x :: st) m := by
  obtain ⟨p, l, e, s, mi, args, below, meth, c, dC, dI, dA, A, hx, hb, hml, hown, hts, hr, hlocks, hno, hst, hK, hA1, hpw, hE, rfl⟩ := C
  intro H locs ls cells slots hc hs hP hD hS hl
  exact lv_ishl hx hb hd  (k H locs ls cells slots hc hs hP hD hS hl)
theorem r_ishr {ρ : Type} {enc : ρ → Option Value} {lo n : Nat} {ad : Nat → Nat} {n0 : Nat} {ad0 : Nat → Nat} {own : String} {cc : ByteArray} {nL : Nat} {ret : Option FieldType} {Ts : List Cond} {fr lc B : Nat} {res : sR ρ} {V : sV} (C : sCX enc lo n ad n0 ad0 own cc nL ret Ts fr lc B res V) {b pc : Nat} {lv : List (Nat × Value)} {st : List Value} {m : sM} {x y : Int32} (hd : decode cc pc = .ok (.ishr, 1))  (k : V b (pc + 1) lv (.int (x >>> (y &&& 31)) :: st) m) : V b pc lv (.int y :: .int x :: st) m := by
  obtain ⟨p, l, e, s, mi, args, below, meth, c, dC, dI, dA, A, hx, hb, hml, hown, hts, hr, hlocks, hno, hst, hK, hA1, hpw, hE, rfl⟩ := C
  intro H locs ls cells slots hc hs hP hD hS hl
  exact lv_ishr hx hb hd  (k H locs ls cells slots hc hs hP hD hS hl)
theorem r_idiv {ρ : Type} {enc : ρ → Option Value} {lo n : Nat} {ad : Nat → Nat} {n0 : Nat} {ad0 : Nat → Nat} {own : String} {cc : ByteArray} {nL : Nat} {ret : Option FieldType} {Ts : List Cond} {fr lc B : Nat} {res : sR ρ} {V : sV} (C : sCX enc lo n ad n0 ad0 own cc nL ret Ts fr lc B res V) {b pc : Nat} {lv : List (Nat × Value)} {st : List Value} {m : sM} {x y : Int32} (hd : decode cc pc = .ok (.idiv, 1)) (hne : ¬ y = 0) (k : V b (pc + 1) lv (.int (x / y) :: st) m) : V b pc lv (.int y :: .int x :: st) m := by
  obtain ⟨p, l, e, s, mi, args, below, meth, c, dC, dI, dA, A, hx, hb, hml, hown, hts, hr, hlocks, hno, hst, hK, hA1, hpw, hE, rfl⟩ := C
  intro H locs ls cells slots hc hs hP hD hS hl
  exact lv_idiv hx hb hd hne (k H locs ls cells slots hc hs hP hD hS hl)
theorem r_irem {ρ : Type} {enc : ρ → Option Value} {lo n : Nat} {ad : Nat → Nat} {n0 : Nat} {ad0 : Nat → Nat} {own : String} {cc : ByteArray} {nL : Nat} {ret : Option FieldType} {Ts : List Cond} {fr lc B : Nat} {res : sR ρ} {V : sV} (C : sCX enc lo n ad n0 ad0 own cc nL ret Ts fr lc B res V) {b pc : Nat} {lv : List (Nat × Value)} {st : List Value} {m : sM} {x y : Int32} (hd : decode cc pc = .ok (.irem, 1)) (hne : ¬ y = 0) (k : V b (pc + 1) lv (.int (x - x / y * y) :: st) m) : V b pc lv (.int y :: .int x :: st) m := by
  obtain ⟨p, l, e, s, mi, args, below, meth, c, dC, dI, dA, A, hx, hb, hml, hown, hts, hr, hlocks, hno, hst, hK, hA1, hpw, hE, rfl⟩ := C
  intro H locs ls cells slots hc hs hP hD hS hl
  exact lv_irem hx hb hd hne (k H locs ls cells slots hc hs hP hD hS hl)
theorem r_ineg {ρ : Type} {enc : ρ → Option Value} {lo n : Nat} {ad : Nat → Nat} {n0 : Nat} {ad0 : Nat → Nat} {own : String} {cc : ByteArray} {nL : Nat} {ret : Option FieldType} {Ts : List Cond} {fr lc B : Nat} {res : sR ρ} {V : sV} (C : sCX enc lo n ad n0 ad0 own cc nL ret Ts fr lc B res V) {b pc : Nat} {lv : List (Nat × Value)} {st : List Value} {m : sM} {x : Int32} (hd : decode cc pc = .ok (.ineg, 1))  (k : V b (pc + 1) lv (.int (-x) :: st) m) : V b pc lv (.int x :: st) m := by
  obtain ⟨p, l, e, s, mi, args, below, meth, c, dC, dI, dA, A, hx, hb, hml, hown, hts, hr, hlocks, hno, hst, hK, hA1, hpw, hE, rfl⟩ := C
  intro H locs ls cells slots hc hs hP hD hS hl
  exact lv_ineg hx hb hd  (k H locs ls cells slots hc hs hP hD hS hl)
theorem r_ladd {ρ : Type} {enc : ρ → Option Value} {lo n : Nat} {ad : Nat → Nat} {n0 : Nat} {ad0 : Nat → Nat} {own : String} {cc : ByteArray} {nL : Nat} {ret : Option FieldType} {Ts : List Cond} {fr lc B : Nat} {res : sR ρ} {V : sV} (C : sCX enc lo n ad n0 ad0 own cc nL ret Ts fr lc B res V) {b pc : Nat} {lv : List (Nat × Value)} {st : List Value} {m : sM} {x y : Int64} (hd : decode cc pc = .ok (.ladd, 1))  (k : V b (pc + 1) lv (.long (x + y) :: st) m) : V b pc lv (.long y :: .long x :: st) m := by
  obtain ⟨p, l, e, s, mi, args, below, meth, c, dC, dI, dA, A, hx, hb, hml, hown, hts, hr, hlocks, hno, hst, hK, hA1, hpw, hE, rfl⟩ := C
  intro H locs ls cells slots hc hs hP hD hS hl
  exact lv_ladd hx hb hd  (k H locs ls cells slots hc hs hP hD hS hl)
theorem r_lsub {ρ : Type} {enc : ρ → Option Value} {lo n : Nat} {ad : Nat → Nat} {n0 : Nat} {ad0 : Nat → Nat} {own : String} {cc : ByteArray} {nL : Nat} {ret : Option FieldType} {Ts : List Cond} {fr lc B : Nat} {res : sR ρ} {V : sV} (C : sCX enc lo n ad n0 ad0 own cc nL ret Ts fr lc B res V) {b pc : Nat} {lv : List (Nat × Value)} {st : List Value} {m : sM} {x y : Int64} (hd : decode cc pc = .ok (.lsub, 1))  (k : V b (pc + 1) lv (.long (x - y) :: st) m) : V b pc lv (.long y :: .long x :: st) m := by
  obtain ⟨p, l, e, s, mi, args, below, meth, c, dC, dI, dA, A, hx, hb, hml, hown, hts, hr, hlocks, hno, hst, hK, hA1, hpw, hE, rfl⟩ := C
  intro H locs ls cells slots hc hs hP hD hS hl
  exact lv_lsub hx hb hd  (k H locs ls cells slots hc hs hP hD hS hl)
theorem r_land {ρ : Type} {enc : ρ → Option Value} {lo n : Nat} {ad : Nat → Nat} {n0 : Nat} {ad0 : Nat → Nat} {own : String} {cc : ByteArray} {nL : Nat} {ret : Option FieldType} {Ts : List Cond} {fr lc B : Nat} {res : sR ρ} {V : sV} (C : sCX enc lo n ad n0 ad0 own cc nL ret Ts fr lc B res V) {b pc : Nat} {lv : List (Nat × Value)} {st : List Value} {m : sM} {x y : Int64} (hd : decode cc pc = .ok (.land, 1))  (k : V b (pc + 1) lv (.long (x &&& y) :: st) m) : V b pc lv (.long y :: .long x :: st) m := by
  obtain ⟨p, l, e, s, mi, args, below, meth, c, dC, dI, dA, A, hx, hb, hml, hown, hts, hr, hlocks, hno, hst, hK, hA1, hpw, hE, rfl⟩ := C
  intro H locs ls cells slots hc hs hP hD hS hl
  exact lv_land hx hb hd  (k H locs ls cells slots hc hs hP hD hS hl)
theorem r_lor {ρ : Type} {enc : ρ → Option Value} {lo n : Nat} {ad : Nat → Nat} {n0 : Nat} {ad0 : Nat → Nat} {own : String} {cc : ByteArray} {nL : Nat} {ret : Option FieldType} {Ts : List Cond} {fr lc B : Nat} {res : sR ρ} {V : sV} (C : sCX enc lo n ad n0 ad0 own cc nL ret Ts fr lc B res V) {b pc : Nat} {lv : List (Nat × Value)} {st : List Value} {m : sM} {x y : Int64} (hd : decode cc pc = .ok (.lor, 1))  (k : V b (pc + 1) lv (.long (x ||| y) :: st) m) : V b pc lv (.long y :: .long x :: st) m := by
  obtain ⟨p, l, e, s, mi, args, below, meth, c, dC, dI, dA, A, hx, hb, hml, hown, hts, hr, hlocks, hno, hst, hK, hA1, hpw, hE, rfl⟩ := C
  intro H locs ls cells slots hc hs hP hD hS hl
  exact lv_lor hx hb hd  (k H locs ls cells slots hc hs hP hD hS hl)
theorem r_lxor {ρ : Type} {enc : ρ → Option Value} {lo n : Nat} {ad : Nat → Nat} {n0 : Nat} {ad0 : Nat → Nat} {own : String} {cc : ByteArray} {nL : Nat} {ret : Option FieldType} {Ts : List Cond} {fr lc B : Nat} {res : sR ρ} {V : sV} (C : sCX enc lo n ad n0 ad0 own cc nL ret Ts fr lc B res V) {b pc : Nat} {lv : List (Nat × Value)} {st : List Value} {m : sM} {x y : Int64} (hd : decode cc pc = .ok (.lxor, 1))  (k : V b (pc + 1) lv (.long (x ^^^ y) :: st) m) : V b pc lv (.long y :: .long x :: st) m := by
  obtain ⟨p, l, e, s, mi, args, below, meth, c, dC, dI, dA, A, hx, hb, hml, hown, hts, hr, hlocks, hno, hst, hK, hA1, hpw, hE, rfl⟩ := C
  intro H locs ls cells slots hc hs hP hD hS hl
  exact lv_lxor hx hb hd  (k H locs ls cells slots hc hs hP hD hS hl)
theorem r_ldiv {ρ : Type} {enc : ρ → Option Value} {lo n : Nat} {ad : Nat → Nat} {n0 : Nat} {ad0 : Nat → Nat} {own : String} {cc : ByteArray} {nL : Nat} {ret : Option FieldType} {Ts : List Cond} {fr lc B : Nat} {res : sR ρ} {V : sV} (C : sCX enc lo n ad n0 ad0 own cc nL ret Ts fr lc B res V) {b pc : Nat} {lv : List (Nat × Value)} {st : List Value} {m : sM} {x y : Int64} (hd : decode cc pc = .ok (.ldiv, 1)) (hne : ¬ y = 0) (k : V b (pc + 1) lv (.long (x / y) :: st) m) : V b pc lv (.long y :: .long x :: st) m := by
  obtain ⟨p, l, e, s, mi, args, below, meth, c, dC, dI, dA, A, hx, hb, hml, hown, hts, hr, hlocks, hno, hst, hK, hA1, hpw, hE, rfl⟩ := C
  intro H locs ls cells slots hc hs hP hD hS hl
  exact lv_ldiv hx hb hd hne (k H locs ls cells slots hc hs hP hD hS hl)
theorem r_lrem {ρ : Type} {enc : ρ → Option Value} {lo n : Nat} {ad : Nat → Nat} {n0 : Nat} {ad0 : Nat → Nat} {own : String} {cc : ByteArray} {nL : Nat} {ret : Option FieldType} {Ts : List Cond} {fr lc B : Nat} {res : sR ρ} {V : sV} (C : sCX enc lo n ad n0 ad0 own cc nL ret Ts fr lc B res V) {b pc : Nat} {lv : List (Nat × Value)} {st : List Value} {m : sM} {x y : Int64} (hd : decode cc pc = .ok (.lrem, 1)) (hne : ¬ y = 0) (k : V b (pc + 1) lv (.long (x - x / y * y) :: st) m) : V b pc lv (.long y :: .long x :: st) m := by
  obtain ⟨p, l, e, s, mi, args, below, meth, c, dC, dI, dA, A, hx, hb, hml, hown, hts, hr, hlocks, hno, hst, hK, hA1, hpw, hE, rfl⟩ := C
  intro H locs ls cells slots hc hs hP hD hS hl
  exact lv_lrem hx hb hd hne (k H locs ls cells slots hc hs hP hD hS hl)
theorem r_lneg {ρ : Type} {enc : ρ → Option Value} {lo n : Nat} {ad : Nat → Nat} {n0 : Nat} {ad0 : Nat → Nat} {own : String} {cc : ByteArray} {nL : Nat} {ret : Option FieldType} {Ts : List Cond} {fr lc B : Nat} {res : sR ρ} {V : sV} (C : sCX enc lo n ad n0 ad0 own cc nL ret Ts fr lc B res V) {b pc : Nat} {lv : List (Nat × Value)} {st : List Value} {m : sM} {x : Int64} (hd : decode cc pc = .ok (.lneg, 1))  (k : V b (pc + 1) lv (.long (-x) :: st) m) : V b pc lv (.long x :: st) m := by
  obtain ⟨p, l, e, s, mi, args, below, meth, c, dC, dI, dA, A, hx, hb, hml, hown, hts, hr, hlocks, hno, hst, hK, hA1, hpw, hE, rfl⟩ := C
  intro H locs ls cells slots hc hs hP hD hS hl
  exact lv_lneg hx hb hd  (k H locs ls cells slots hc hs hP hD hS hl)
theorem r_i2l {ρ : Type} {enc : ρ → Option Value} {lo n : Nat} {ad : Nat → Nat} {n0 : Nat} {ad0 : Nat → Nat} {own : String} {cc : ByteArray} {nL : Nat} {ret : Option FieldType} {Ts : List Cond} {fr lc B : Nat} {res : sR ρ} {V : sV} (C : sCX enc lo n ad n0 ad0 own cc nL ret Ts fr lc B res V) {b pc : Nat} {lv : List (Nat × Value)} {st : List Value} {m : sM} {x : Int32} (hd : decode cc pc = .ok (.i2l, 1))  (k : V b (pc + 1) lv (.long x.toInt64 :: st) m) : V b pc lv (.int x :: st) m := by
  obtain ⟨p, l, e, s, mi, args, below, meth, c, dC, dI, dA, A, hx, hb, hml, hown, hts, hr, hlocks, hno, hst, hK, hA1, hpw, hE, rfl⟩ := C
  intro H locs ls cells slots hc hs hP hD hS hl
  exact lv_i2l hx hb hd rfl (k H locs ls cells slots hc hs hP hD hS hl)
theorem r_l2i {ρ : Type} {enc : ρ → Option Value} {lo n : Nat} {ad : Nat → Nat} {n0 : Nat} {ad0 : Nat → Nat} {own : String} {cc : ByteArray} {nL : Nat} {ret : Option FieldType} {Ts : List Cond} {fr lc B : Nat} {res : sR ρ} {V : sV} (C : sCX enc lo n ad n0 ad0 own cc nL ret Ts fr lc B res V) {b pc : Nat} {lv : List (Nat × Value)} {st : List Value} {m : sM} {x : Int64} (hd : decode cc pc = .ok (.l2i, 1))  (k : V b (pc + 1) lv (.int x.toInt32 :: st) m) : V b pc lv (.long x :: st) m := by
  obtain ⟨p, l, e, s, mi, args, below, meth, c, dC, dI, dA, A, hx, hb, hml, hown, hts, hr, hlocks, hno, hst, hK, hA1, hpw, hE, rfl⟩ := C
  intro H locs ls cells slots hc hs hP hD hS hl
  exact lv_l2i hx hb hd rfl (k H locs ls cells slots hc hs hP hD hS hl)
theorem r_i2c {ρ : Type} {enc : ρ → Option Value} {lo n : Nat} {ad : Nat → Nat} {n0 : Nat} {ad0 : Nat → Nat} {own : String} {cc : ByteArray} {nL : Nat} {ret : Option FieldType} {Ts : List Cond} {fr lc B : Nat} {res : sR ρ} {V : sV} (C : sCX enc lo n ad n0 ad0 own cc nL ret Ts fr lc B res V) {b pc : Nat} {lv : List (Nat × Value)} {st : List Value} {m : sM} {x : Int32} (hd : decode cc pc = .ok (.i2c, 1))  (k : V b (pc + 1) lv (.int (s_i2c x) :: st) m) : V b pc lv (.int x :: st) m := by
  obtain ⟨p, l, e, s, mi, args, below, meth, c, dC, dI, dA, A, hx, hb, hml, hown, hts, hr, hlocks, hno, hst, hK, hA1, hpw, hE, rfl⟩ := C
  intro H locs ls cells slots hc hs hP hD hS hl
  exact lv_i2c hx hb hd rfl (k H locs ls cells slots hc hs hP hD hS hl)
theorem r_lushr {ρ : Type} {enc : ρ → Option Value} {lo n : Nat} {ad : Nat → Nat} {n0 : Nat} {ad0 : Nat → Nat} {own : String} {cc : ByteArray} {nL : Nat} {ret : Option FieldType} {Ts : List Cond} {fr lc B : Nat} {res : sR ρ} {V : sV} (C : sCX enc lo n ad n0 ad0 own cc nL ret Ts fr lc B res V) {b pc : Nat} {lv : List (Nat × Value)} {st : List Value} {m : sM} {x : Int64} {y : Int32} (hd : decode cc pc = .ok (.lushr, 1))  (k : V b (pc + 1) lv (.long (s_lushr x y) :: st) m) : V b pc lv (.int y :: .long x :: st) m := by
  obtain ⟨p, l, e, s, mi, args, below, meth, c, dC, dI, dA, A, hx, hb, hml, hown, hts, hr, hlocks, hno, hst, hK, hA1, hpw, hE, rfl⟩ := C
  intro H locs ls cells slots hc hs hP hD hS hl
  exact lv_lushr hx hb hd rfl (k H locs ls cells slots hc hs hP hD hS hl)
theorem r_lshl {ρ : Type} {enc : ρ → Option Value} {lo n : Nat} {ad : Nat → Nat} {n0 : Nat} {ad0 : Nat → Nat} {own : String} {cc : ByteArray} {nL : Nat} {ret : Option FieldType} {Ts : List Cond} {fr lc B : Nat} {res : sR ρ} {V : sV} (C : sCX enc lo n ad n0 ad0 own cc nL ret Ts fr lc B res V) {b pc : Nat} {lv : List (Nat × Value)} {st : List Value} {m : sM} {x : Int64} {y : Int32} (hd : decode cc pc = .ok (.lshl, 1))  (k : V b (pc + 1) lv (.long (s_lshl x y) :: st) m) : V b pc lv (.int y :: .long x :: st) m := by
  obtain ⟨p, l, e, s, mi, args, below, meth, c, dC, dI, dA, A, hx, hb, hml, hown, hts, hr, hlocks, hno, hst, hK, hA1, hpw, hE, rfl⟩ := C
  intro H locs ls cells slots hc hs hP hD hS hl
  exact lv_lshl hx hb hd rfl (k H locs ls cells slots hc hs hP hD hS hl)
theorem r_lcmp {ρ : Type} {enc : ρ → Option Value} {lo n : Nat} {ad : Nat → Nat} {n0 : Nat} {ad0 : Nat → Nat} {own : String} {cc : ByteArray} {nL : Nat} {ret : Option FieldType} {Ts : List Cond} {fr lc B : Nat} {res : sR ρ} {V : sV} (C : sCX enc lo n ad n0 ad0 own cc nL ret Ts fr lc B res V) {b pc : Nat} {lv : List (Nat × Value)} {st : List Value} {m : sM} {x y : Int64} (hd : decode cc pc = .ok (.lcmp, 1))  (k : V b (pc + 1) lv (.int (lg_cmp x y) :: st) m) : V b pc lv (.long y :: .long x :: st) m := by
  obtain ⟨p, l, e, s, mi, args, below, meth, c, dC, dI, dA, A, hx, hb, hml, hown, hts, hr, hlocks, hno, hst, hK, hA1, hpw, hE, rfl⟩ := C
  intro H locs ls cells slots hc hs hP hD hS hl
  exact W.lcmp hx hb hd  (k H locs ls cells slots hc hs hP hD hS hl)
theorem r_dup {ρ : Type} {enc : ρ → Option Value} {lo n : Nat} {ad : Nat → Nat} {n0 : Nat} {ad0 : Nat → Nat} {own : String} {cc : ByteArray} {nL : Nat} {ret : Option FieldType} {Ts : List Cond} {fr lc B : Nat} {res : sR ρ} {V : sV} (C : sCX enc lo n ad n0 ad0 own cc nL ret Ts fr lc B res V) {b pc : Nat} {lv : List (Nat × Value)} {st : List Value} {m : sM} {x : Value} (hd : decode cc pc = .ok (.dup, 1)) (hx1 : x.category = 1) (k : V b (pc + 1) lv (x :: x :: st) m) : V b pc lv (x :: st) m := by
  obtain ⟨p, l, e, s, mi, args, below, meth, c, dC, dI, dA, A, hx, hb, hml, hown, hts, hr, hlocks, hno, hst, hK, hA1, hpw, hE, rfl⟩ := C
  intro H locs ls cells slots hc hs hP hD hS hl
  exact lv_dup hx hb hd hx1 (k H locs ls cells slots hc hs hP hD hS hl)
theorem r_pop {ρ : Type} {enc : ρ → Option Value} {lo n : Nat} {ad : Nat → Nat} {n0 : Nat} {ad0 : Nat → Nat} {own : String} {cc : ByteArray} {nL : Nat} {ret : Option FieldType} {Ts : List Cond} {fr lc B : Nat} {res : sR ρ} {V : sV} (C : sCX enc lo n ad n0 ad0 own cc nL ret Ts fr lc B res V) {b pc : Nat} {lv : List (Nat × Value)} {st : List Value} {m : sM} {x : Value} (hd : decode cc pc = .ok (.pop, 1)) (hx1 : x.category = 1) (k : V b (pc + 1) lv (st) m) : V b pc lv (x :: st) m := by
  obtain ⟨p, l, e, s, mi, args, below, meth, c, dC, dI, dA, A, hx, hb, hml, hown, hts, hr, hlocks, hno, hst, hK, hA1, hpw, hE, rfl⟩ := C
  intro H locs ls cells slots hc hs hP hD hS hl
  exact lv_pop hx hb hd hx1 (k H locs ls cells slots hc hs hP hD hS hl)
theorem r_dup2 {ρ : Type} {enc : ρ → Option Value} {lo n : Nat} {ad : Nat → Nat} {n0 : Nat} {ad0 : Nat → Nat} {own : String} {cc : ByteArray} {nL : Nat} {ret : Option FieldType} {Ts : List Cond} {fr lc B : Nat} {res : sR ρ} {V : sV} (C : sCX enc lo n ad n0 ad0 own cc nL ret Ts fr lc B res V) {b pc : Nat} {lv : List (Nat × Value)} {st : List Value} {m : sM} {x y : Value} (hd : decode cc pc = .ok (.dup2, 1)) (hx1 : x.category = 1) (hy1 : y.category = 1) (k : V b (pc + 1) lv (x :: y :: x :: y :: st) m) : V b pc lv (x :: y :: st) m := by
  obtain ⟨p, l, e, s, mi, args, below, meth, c, dC, dI, dA, A, hx, hb, hml, hown, hts, hr, hlocks, hno, hst, hK, hA1, hpw, hE, rfl⟩ := C
  intro H locs ls cells slots hc hs hP hD hS hl
  exact lv_dup2_11 hx hb hd hx1 hy1 (k H locs ls cells slots hc hs hP hD hS hl)
theorem r_ldc {ρ : Type} {enc : ρ → Option Value} {lo n : Nat} {ad : Nat → Nat} {n0 : Nat} {ad0 : Nat → Nat} {own : String} {cc : ByteArray} {nL : Nat} {ret : Option FieldType} {Ts : List Cond} {fr lc B : Nat} {res : sR ρ} {V : sV} (C : sCX enc lo n ad n0 ad0 own cc nL ret Ts fr lc B res V) {b pc : Nat} {lv : List (Nat × Value)} {st : List Value} {m : sM} {index : Nat} {v : Int32} (hd : decode cc pc = .ok (.ldc index, 2)) (hw : Cond.constant own index v ∈ Ts) (k : V b (pc + 2) lv (.int v :: st) m) : V b pc lv st m := by
  obtain ⟨p, l, e, s, mi, args, below, meth, c, dC, dI, dA, A, hx, hb, hml, hown, hts, hr, hlocks, hno, hst, hK, hA1, hpw, hE, rfl⟩ := C
  intro H locs ls cells slots hc hs hP hD hS hl
  exact lv_ldc hx hb hown (hts _ hw) hd (k H locs ls cells slots hc hs hP hD hS hl)
theorem r_ldcw {ρ : Type} {enc : ρ → Option Value} {lo n : Nat} {ad : Nat → Nat} {n0 : Nat} {ad0 : Nat → Nat} {own : String} {cc : ByteArray} {nL : Nat} {ret : Option FieldType} {Ts : List Cond} {fr lc B : Nat} {res : sR ρ} {V : sV} (C : sCX enc lo n ad n0 ad0 own cc nL ret Ts fr lc B res V) {b pc : Nat} {lv : List (Nat × Value)} {st : List Value} {m : sM} {index : Nat} {v : Int32} (hd : decode cc pc = .ok (.ldc_w index, 3)) (hw : Cond.constant own index v ∈ Ts) (k : V b (pc + 3) lv (.int v :: st) m) : V b pc lv st m := by
  obtain ⟨p, l, e, s, mi, args, below, meth, c, dC, dI, dA, A, hx, hb, hml, hown, hts, hr, hlocks, hno, hst, hK, hA1, hpw, hE, rfl⟩ := C
  intro H locs ls cells slots hc hs hP hD hS hl
  exact lv_ldcw hx hb hown (hts _ hw) hd (k H locs ls cells slots hc hs hP hD hS hl)
theorem r_ldc2 {ρ : Type} {enc : ρ → Option Value} {lo n : Nat} {ad : Nat → Nat} {n0 : Nat} {ad0 : Nat → Nat} {own : String} {cc : ByteArray} {nL : Nat} {ret : Option FieldType} {Ts : List Cond} {fr lc B : Nat} {res : sR ρ} {V : sV} (C : sCX enc lo n ad n0 ad0 own cc nL ret Ts fr lc B res V) {b pc : Nat} {lv : List (Nat × Value)} {st : List Value} {m : sM} {index : Nat} {v : Int64} (hd : decode cc pc = .ok (.ldc2_w index, 3)) (hw : Cond.constantLong own index v ∈ Ts) (k : V b (pc + 3) lv (.long v :: st) m) : V b pc lv st m := by
  obtain ⟨p, l, e, s, mi, args, below, meth, c, dC, dI, dA, A, hx, hb, hml, hown, hts, hr, hlocks, hno, hst, hK, hA1, hpw, hE, rfl⟩ := C
  intro H locs ls cells slots hc hs hP hD hS hl
  exact lv_ldc2 hx hb hown (hts _ hw) hd (k H locs ls cells slots hc hs hP hD hS hl)
theorem r_goto {ρ : Type} {enc : ρ → Option Value} {lo n : Nat} {ad : Nat → Nat} {n0 : Nat} {ad0 : Nat → Nat} {own : String} {cc : ByteArray} {nL : Nat} {ret : Option FieldType} {Ts : List Cond} {fr lc B : Nat} {res : sR ρ} {V : sV} (C : sCX enc lo n ad n0 ad0 own cc nL ret Ts fr lc B res V) {b pc : Nat} {lv : List (Nat × Value)} {st : List Value} {m : sM} {off : Int} {tgt : Nat} (hd : decode cc pc = .ok (.goto off, 3)) (ht : (pc : Int) + off = (tgt : Int)) (k : V b tgt lv st m) : V b pc lv st m := by
  obtain ⟨p, l, e, s, mi, args, below, meth, c, dC, dI, dA, A, hx, hb, hml, hown, hts, hr, hlocks, hno, hst, hK, hA1, hpw, hE, rfl⟩ := C
  intro H locs ls cells slots hc hs hP hD hS hl
  exact lv_goto hx hb hd ht (k H locs ls cells slots hc hs hP hD hS hl)
theorem r_if_eq {ρ : Type} {enc : ρ → Option Value} {lo n : Nat} {ad : Nat → Nat} {n0 : Nat} {ad0 : Nat → Nat} {own : String} {cc : ByteArray} {nL : Nat} {ret : Option FieldType} {Ts : List Cond} {fr lc B : Nat} {res : sR ρ} {V : sV} (C : sCX enc lo n ad n0 ad0 own cc nL ret Ts fr lc B res V) {b pc : Nat} {lv : List (Nat × Value)} {st : List Value} {m : sM} {x : Int32} {off : Int} {tgt : Nat} {i : Decidable (x = 0)} {X Y : Option (sR ρ)} (hd : decode cc pc = .ok (.ifCond .eq off, 3)) (ht : (pc : Int) + off = (tgt : Int)) (h : @ite _ (x = 0) i X Y = some res) (kt : x = 0 → X = some res → V b tgt lv st m) (kf : ¬ x = 0 → Y = some res → V b (pc + 3) lv st m) : V b pc lv (.int x :: st) m := by
  obtain ⟨p, l, e, s, mi, args, below, meth, c, dC, dI, dA, A, hx, hb, hml, hown, hts, hr, hlocks, hno, hst, hK, hA1, hpw, hE, rfl⟩ := C
  intro H locs ls cells slots hc hs hP hD hS hl
  exact lv_if_eq hx hb hd ht (fun hq => kt hq (s_pos hq h) H locs ls cells slots hc hs hP hD hS hl) (fun hq => kf hq (s_neg hq h) H locs ls cells slots hc hs hP hD hS hl)
theorem r_if_ne {ρ : Type} {enc : ρ → Option Value} {lo n : Nat} {ad : Nat → Nat} {n0 : Nat} {ad0 : Nat → Nat} {own : String} {cc : ByteArray} {nL : Nat} {ret : Option FieldType} {Ts : List Cond} {fr lc B : Nat} {res : sR ρ} {V : sV} (C : sCX enc lo n ad n0 ad0 own cc nL ret Ts fr lc B res V) {b pc : Nat} {lv : List (Nat × Value)} {st : List Value} {m : sM} {x : Int32} {off : Int} {tgt : Nat} {i : Decidable (x = 0)} {X Y : Option (sR ρ)} (hd : decode cc pc = .ok (.ifCond .ne off, 3)) (ht : (pc : Int) + off = (tgt : Int)) (h : @ite _ (x = 0) i X Y = some res) (kt : x = 0 → X = some res → V b (pc + 3) lv st m) (kf : ¬ x = 0 → Y = some res → V b tgt lv st m) : V b pc lv (.int x :: st) m := by
  obtain ⟨p, l, e, s, mi, args, below, meth, c, dC, dI, dA, A, hx, hb, hml, hown, hts, hr, hlocks, hno, hst, hK, hA1, hpw, hE, rfl⟩ := C
  intro H locs ls cells slots hc hs hP hD hS hl
  exact lv_if_ne hx hb hd ht (fun hq => kf hq (s_neg hq h) H locs ls cells slots hc hs hP hD hS hl) (fun hq => kt hq (s_pos hq h) H locs ls cells slots hc hs hP hD hS hl)
theorem r_if_lt {ρ : Type} {enc : ρ → Option Value} {lo n : Nat} {ad : Nat → Nat} {n0 : Nat} {ad0 : Nat → Nat} {own : String} {cc : ByteArray} {nL : Nat} {ret : Option FieldType} {Ts : List Cond} {fr lc B : Nat} {res : sR ρ} {V : sV} (C : sCX enc lo n ad n0 ad0 own cc nL ret Ts fr lc B res V) {b pc : Nat} {lv : List (Nat × Value)} {st : List Value} {m : sM} {x : Int32} {off : Int} {tgt : Nat} {i : Decidable (x < 0)} {X Y : Option (sR ρ)} (hd : decode cc pc = .ok (.ifCond .lt off, 3)) (ht : (pc : Int) + off = (tgt : Int)) (h : @ite _ (x < 0) i X Y = some res) (kt : x < 0 → X = some res → V b tgt lv st m) (kf : ¬ x < 0 → Y = some res → V b (pc + 3) lv st m) : V b pc lv (.int x :: st) m := by
  obtain ⟨p, l, e, s, mi, args, below, meth, c, dC, dI, dA, A, hx, hb, hml, hown, hts, hr, hlocks, hno, hst, hK, hA1, hpw, hE, rfl⟩ := C
  intro H locs ls cells slots hc hs hP hD hS hl
  exact lv_if_lt hx hb hd ht (fun hq => kt hq (s_pos hq h) H locs ls cells slots hc hs hP hD hS hl) (fun hq => kf hq (s_neg hq h) H locs ls cells slots hc hs hP hD hS hl)
theorem r_if_ge {ρ : Type} {enc : ρ → Option Value} {lo n : Nat} {ad : Nat → Nat} {n0 : Nat} {ad0 : Nat → Nat} {own : String} {cc : ByteArray} {nL : Nat} {ret : Option FieldType} {Ts : List Cond} {fr lc B : Nat} {res : sR ρ} {V : sV} (C : sCX enc lo n ad n0 ad0 own cc nL ret Ts fr lc B res V) {b pc : Nat} {lv : List (Nat × Value)} {st : List Value} {m : sM} {x : Int32} {off : Int} {tgt : Nat} {i : Decidable (0 ≤ x)} {X Y : Option (sR ρ)} (hd : decode cc pc = .ok (.ifCond .ge off, 3)) (ht : (pc : Int) + off = (tgt : Int)) (h : @ite _ (0 ≤ x) i X Y = some res) (kt : 0 ≤ x → X = some res → V b tgt lv st m) (kf : ¬ 0 ≤ x → Y = some res → V b (pc + 3) lv st m) : V b pc lv (.int x :: st) m := by
  obtain ⟨p, l, e, s, mi, args, below, meth, c, dC, dI, dA, A, hx, hb, hml, hown, hts, hr, hlocks, hno, hst, hK, hA1, hpw, hE, rfl⟩ := C
  intro H locs ls cells slots hc hs hP hD hS hl
  exact lv_if_ge hx hb hd ht (fun hq => kt hq (s_pos hq h) H locs ls cells slots hc hs hP hD hS hl) (fun hq => kf hq (s_neg hq h) H locs ls cells slots hc hs hP hD hS hl)
theorem r_if_gt {ρ : Type} {enc : ρ → Option Value} {lo n : Nat} {ad : Nat → Nat} {n0 : Nat} {ad0 : Nat → Nat} {own : String} {cc : ByteArray} {nL : Nat} {ret : Option FieldType} {Ts : List Cond} {fr lc B : Nat} {res : sR ρ} {V : sV} (C : sCX enc lo n ad n0 ad0 own cc nL ret Ts fr lc B res V) {b pc : Nat} {lv : List (Nat × Value)} {st : List Value} {m : sM} {x : Int32} {off : Int} {tgt : Nat} {i : Decidable (0 < x)} {X Y : Option (sR ρ)} (hd : decode cc pc = .ok (.ifCond .gt off, 3)) (ht : (pc : Int) + off = (tgt : Int)) (h : @ite _ (0 < x) i X Y = some res) (kt : 0 < x → X = some res → V b tgt lv st m) (kf : ¬ 0 < x → Y = some res → V b (pc + 3) lv st m) : V b pc lv (.int x :: st) m := by
  obtain ⟨p, l, e, s, mi, args, below, meth, c, dC, dI, dA, A, hx, hb, hml, hown, hts, hr, hlocks, hno, hst, hK, hA1, hpw, hE, rfl⟩ := C
  intro H locs ls cells slots hc hs hP hD hS hl
  exact lv_if_gt hx hb hd ht (fun hq => kt hq (s_pos hq h) H locs ls cells slots hc hs hP hD hS hl) (fun hq => kf hq (s_neg hq h) H locs ls cells slots hc hs hP hD hS hl)
theorem r_if_le {ρ : Type} {enc : ρ → Option Value} {lo n : Nat} {ad : Nat → Nat} {n0 : Nat} {ad0 : Nat → Nat} {own : String} {cc : ByteArray} {nL : Nat} {ret : Option FieldType} {Ts : List Cond} {fr lc B : Nat} {res : sR ρ} {V : sV} (C : sCX enc lo n ad n0 ad0 own cc nL ret Ts fr lc B res V) {b pc : Nat} {lv : List (Nat × Value)} {st : List Value} {m : sM} {x : Int32} {off : Int} {tgt : Nat} {i : Decidable (x ≤ 0)} {X Y : Option (sR ρ)} (hd : decode cc pc = .ok (.ifCond .le off, 3)) (ht : (pc : Int) + off = (tgt : Int)) (h : @ite _ (x ≤ 0) i X Y = some res) (kt : x ≤ 0 → X = some res → V b tgt lv st m) (kf : ¬ x ≤ 0 → Y = some res → V b (pc + 3) lv st m) : V b pc lv (.int x :: st) m := by
  obtain ⟨p, l, e, s, mi, args, below, meth, c, dC, dI, dA, A, hx, hb, hml, hown, hts, hr, hlocks, hno, hst, hK, hA1, hpw, hE, rfl⟩ := C
  intro H locs ls cells slots hc hs hP hD hS hl
  exact lv_if_le hx hb hd ht (fun hq => kt hq (s_pos hq h) H locs ls cells slots hc hs hP hD hS hl) (fun hq => kf hq (s_neg hq h) H locs ls cells slots hc hs hP hD hS hl)
theorem r_icmp_eq {ρ : Type} {enc : ρ → Option Value} {lo n : Nat} {ad : Nat → Nat} {n0 : Nat} {ad0 : Nat → Nat} {own : String} {cc : ByteArray} {nL : Nat} {ret : Option FieldType} {Ts : List Cond} {fr lc B : Nat} {res : sR ρ} {V : sV} (C : sCX enc lo n ad n0 ad0 own cc nL ret Ts fr lc B res V) {b pc : Nat} {lv : List (Nat × Value)} {st : List Value} {m : sM} {x y : Int32} {off : Int} {tgt : Nat} {i : Decidable (x = y)} {X Y : Option (sR ρ)} (hd : decode cc pc = .ok (.if_icmp .eq off, 3)) (ht : (pc : Int) + off = (tgt : Int)) (h : @ite _ (x = y) i X Y = some res) (kt : x = y → X = some res → V b tgt lv st m) (kf : ¬ x = y → Y = some res → V b (pc + 3) lv st m) : V b pc lv (.int y :: .int x :: st) m := by
  obtain ⟨p, l, e, s, mi, args, below, meth, c, dC, dI, dA, A, hx, hb, hml, hown, hts, hr, hlocks, hno, hst, hK, hA1, hpw, hE, rfl⟩ := C
  intro H locs ls cells slots hc hs hP hD hS hl
  exact lv_icmp_eq hx hb hd ht (fun hq => kt hq (s_pos hq h) H locs ls cells slots hc hs hP hD hS hl) (fun hq => kf hq (s_neg hq h) H locs ls cells slots hc hs hP hD hS hl)
theorem r_icmp_ne {ρ : Type} {enc : ρ → Option Value} {lo n : Nat} {ad : Nat → Nat} {n0 : Nat} {ad0 : Nat → Nat} {own : String} {cc : ByteArray} {nL : Nat} {ret : Option FieldType} {Ts : List Cond} {fr lc B : Nat} {res : sR ρ} {V : sV} (C : sCX enc lo n ad n0 ad0 own cc nL ret Ts fr lc B res V) {b pc : Nat} {lv : List (Nat × Value)} {st : List Value} {m : sM} {x y : Int32} {off : Int} {tgt : Nat} {i : Decidable (x = y)} {X Y : Option (sR ρ)} (hd : decode cc pc = .ok (.if_icmp .ne off, 3)) (ht : (pc : Int) + off = (tgt : Int)) (h : @ite _ (x = y) i X Y = some res) (kt : x = y → X = some res → V b (pc + 3) lv st m) (kf : ¬ x = y → Y = some res → V b tgt lv st m) : V b pc lv (.int y :: .int x :: st) m := by
  obtain ⟨p, l, e, s, mi, args, below, meth, c, dC, dI, dA, A, hx, hb, hml, hown, hts, hr, hlocks, hno, hst, hK, hA1, hpw, hE, rfl⟩ := C
  intro H locs ls cells slots hc hs hP hD hS hl
  exact lv_icmp_ne hx hb hd ht (fun hq => kf hq (s_neg hq h) H locs ls cells slots hc hs hP hD hS hl) (fun hq => kt hq (s_pos hq h) H locs ls cells slots hc hs hP hD hS hl)
theorem r_icmp_lt {ρ : Type} {enc : ρ → Option Value} {lo n : Nat} {ad : Nat → Nat} {n0 : Nat} {ad0 : Nat → Nat} {own : String} {cc : ByteArray} {nL : Nat} {ret : Option FieldType} {Ts : List Cond} {fr lc B : Nat} {res : sR ρ} {V : sV} (C : sCX enc lo n ad n0 ad0 own cc nL ret Ts fr lc B res V) {b pc : Nat} {lv : List (Nat × Value)} {st : List Value} {m : sM} {x y : Int32} {off : Int} {tgt : Nat} {i : Decidable (x < y)} {X Y : Option (sR ρ)} (hd : decode cc pc = .ok (.if_icmp .lt off, 3)) (ht : (pc : Int) + off = (tgt : Int)) (h : @ite _ (x < y) i X Y = some res) (kt : x < y → X = some res → V b tgt lv st m) (kf : ¬ x < y → Y = some res → V b (pc + 3) lv st m) : V b pc lv (.int y :: .int x :: st) m := by
  obtain ⟨p, l, e, s, mi, args, below, meth, c, dC, dI, dA, A, hx, hb, hml, hown, hts, hr, hlocks, hno, hst, hK, hA1, hpw, hE, rfl⟩ := C
  intro H locs ls cells slots hc hs hP hD hS hl
  exact lv_icmp_lt hx hb hd ht (fun hq => kt hq (s_pos hq h) H locs ls cells slots hc hs hP hD hS hl) (fun hq => kf hq (s_neg hq h) H locs ls cells slots hc hs hP hD hS hl)
theorem r_icmp_ge {ρ : Type} {enc : ρ → Option Value} {lo n : Nat} {ad : Nat → Nat} {n0 : Nat} {ad0 : Nat → Nat} {own : String} {cc : ByteArray} {nL : Nat} {ret : Option FieldType} {Ts : List Cond} {fr lc B : Nat} {res : sR ρ} {V : sV} (C : sCX enc lo n ad n0 ad0 own cc nL ret Ts fr lc B res V) {b pc : Nat} {lv : List (Nat × Value)} {st : List Value} {m : sM} {x y : Int32} {off : Int} {tgt : Nat} {i : Decidable (y ≤ x)} {X Y : Option (sR ρ)} (hd : decode cc pc = .ok (.if_icmp .ge off, 3)) (ht : (pc : Int) + off = (tgt : Int)) (h : @ite _ (y ≤ x) i X Y = some res) (kt : y ≤ x → X = some res → V b tgt lv st m) (kf : ¬ y ≤ x → Y = some res → V b (pc + 3) lv st m) : V b pc lv (.int y :: .int x :: st) m := by
  obtain ⟨p, l, e, s, mi, args, below, meth, c, dC, dI, dA, A, hx, hb, hml, hown, hts, hr, hlocks, hno, hst, hK, hA1, hpw, hE, rfl⟩ := C
  intro H locs ls cells slots hc hs hP hD hS hl
  exact lv_icmp_ge hx hb hd ht (fun hq => kt hq (s_pos hq h) H locs ls cells slots hc hs hP hD hS hl) (fun hq => kf hq (s_neg hq h) H locs ls cells slots hc hs hP hD hS hl)
theorem r_icmp_gt {ρ : Type} {enc : ρ → Option Value} {lo n : Nat} {ad : Nat → Nat} {n0 : Nat} {ad0 : Nat → Nat} {own : String} {cc : ByteArray} {nL : Nat} {ret : Option FieldType} {Ts : List Cond} {fr lc B : Nat} {res : sR ρ} {V : sV} (C : sCX enc lo n ad n0 ad0 own cc nL ret Ts fr lc B res V) {b pc : Nat} {lv : List (Nat × Value)} {st : List Value} {m : sM} {x y : Int32} {off : Int} {tgt : Nat} {i : Decidable (y < x)} {X Y : Option (sR ρ)} (hd : decode cc pc = .ok (.if_icmp .gt off, 3)) (ht : (pc : Int) + off = (tgt : Int)) (h : @ite _ (y < x) i X Y = some res) (kt : y < x → X = some res → V b tgt lv st m) (kf : ¬ y < x → Y = some res → V b (pc + 3) lv st m) : V b pc lv (.int y :: .int x :: st) m := by
  obtain ⟨p, l, e, s, mi, args, below, meth, c, dC, dI, dA, A, hx, hb, hml, hown, hts, hr, hlocks, hno, hst, hK, hA1, hpw, hE, rfl⟩ := C
  intro H locs ls cells slots hc hs hP hD hS hl
  exact lv_icmp_gt hx hb hd ht (fun hq => kt hq (s_pos hq h) H locs ls cells slots hc hs hP hD hS hl) (fun hq => kf hq (s_neg hq h) H locs ls cells slots hc hs hP hD hS hl)
theorem r_icmp_le {ρ : Type} {enc : ρ → Option Value} {lo n : Nat} {ad : Nat → Nat} {n0 : Nat} {ad0 : Nat → Nat} {own : String} {cc : ByteArray} {nL : Nat} {ret : Option FieldType} {Ts : List Cond} {fr lc B : Nat} {res : sR ρ} {V : sV} (C : sCX enc lo n ad n0 ad0 own cc nL ret Ts fr lc B res V) {b pc : Nat} {lv : List (Nat × Value)} {st : List Value} {m : sM} {x y : Int32} {off : Int} {tgt : Nat} {i : Decidable (x ≤ y)} {X Y : Option (sR ρ)} (hd : decode cc pc = .ok (.if_icmp .le off, 3)) (ht : (pc : Int) + off = (tgt : Int)) (h : @ite _ (x ≤ y) i X Y = some res) (kt : x ≤ y → X = some res → V b tgt lv st m) (kf : ¬ x ≤ y → Y = some res → V b (pc + 3) lv st m) : V b pc lv (.int y :: .int x :: st) m := by
  obtain ⟨p, l, e, s, mi, args, below, meth, c, dC, dI, dA, A, hx, hb, hml, hown, hts, hr, hlocks, hno, hst, hK, hA1, hpw, hE, rfl⟩ := C
  intro H locs ls cells slots hc hs hP hD hS hl
  exact lv_icmp_le hx hb hd ht (fun hq => kt hq (s_pos hq h) H locs ls cells slots hc hs hP hD hS hl) (fun hq => kf hq (s_neg hq h) H locs ls cells slots hc hs hP hD hS hl)
theorem r_tabIn {ρ : Type} {enc : ρ → Option Value} {lo n : Nat} {ad : Nat → Nat} {n0 : Nat} {ad0 : Nat → Nat} {own : String} {cc : ByteArray} {nL : Nat} {ret : Option FieldType} {Ts : List Cond} {fr lc B : Nat} {res : sR ρ} {V : sV} (C : sCX enc lo n ad n0 ad0 own cc nL ret Ts fr lc B res V) {b pc : Nat} {lv : List (Nat × Value)} {st : List Value} {m : sM} {dflt lo9 hi9 : Int} {offs : Array Int} {len : Nat} {x : Int32} {off : Int} {tgt : Nat} (hd : decode cc pc = .ok (.tableswitch dflt lo9 hi9 offs, len)) (h1 : ¬ x.toInt < lo9) (h2 : ¬ hi9 < x.toInt) (ho : offs[(x.toInt - lo9).toNat]? = some off) (ht : (pc : Int) + off = (tgt : Int)) (k : V b tgt lv st m) : V b pc lv (.int x :: st) m := by
  obtain ⟨p, l, e, s, mi, args, below, meth, c, dC, dI, dA, A, hx, hb, hml, hown, hts, hr, hlocks, hno, hst, hK, hA1, hpw, hE, rfl⟩ := C
  intro H locs ls cells slots hc hs hP hD hS hl
  exact lv_tableIn hx hb hd h1 h2 ho ht (k H locs ls cells slots hc hs hP hD hS hl)
theorem r_tabOut {ρ : Type} {enc : ρ → Option Value} {lo n : Nat} {ad : Nat → Nat} {n0 : Nat} {ad0 : Nat → Nat} {own : String} {cc : ByteArray} {nL : Nat} {ret : Option FieldType} {Ts : List Cond} {fr lc B : Nat} {res : sR ρ} {V : sV} (C : sCX enc lo n ad n0 ad0 own cc nL ret Ts fr lc B res V) {b pc : Nat} {lv : List (Nat × Value)} {st : List Value} {m : sM} {dflt lo9 hi9 : Int} {offs : Array Int} {len : Nat} {x : Int32} {tgt : Nat} (hd : decode cc pc = .ok (.tableswitch dflt lo9 hi9 offs, len)) (h1 : x.toInt < lo9 ∨ hi9 < x.toInt) (ht : (pc : Int) + dflt = (tgt : Int)) (k : V b tgt lv st m) : V b pc lv (.int x :: st) m := by
  obtain ⟨p, l, e, s, mi, args, below, meth, c, dC, dI, dA, A, hx, hb, hml, hown, hts, hr, hlocks, hno, hst, hK, hA1, hpw, hE, rfl⟩ := C
  intro H locs ls cells slots hc hs hP hD hS hl
  exact lv_tableOut hx hb hd h1 ht (k H locs ls cells slots hc hs hP hD hS hl)
theorem r_sub {ρ : Type} {enc : ρ → Option Value} {lo n : Nat} {ad : Nat → Nat} {n0 : Nat} {ad0 : Nat → Nat} {own : String} {cc : ByteArray} {nL : Nat} {ret : Option FieldType} {Ts : List Cond} {fr lc B : Nat} {res : sR ρ} {V : sV} (C : sCX enc lo n ad n0 ad0 own cc nL ret Ts fr lc B res V) {b pc : Nat} {lv : List (Nat × Value)} {st : List Value} {m : sM} {lv' : List (Nat × Value)} (ks : List Nat) (hv : lv_pick lv ks = lv') (k : V b pc lv' st m) : V b pc lv st m := by
  obtain ⟨p, l, e, s, mi, args, below, meth, c, dC, dI, dA, A, hx, hb, hml, hown, hts, hr, hlocks, hno, hst, hK, hA1, hpw, hE, rfl⟩ := C
  intro H locs ls cells slots hc hs hP hD hS hl
  exact k H locs ls cells slots hc hs hP hD hS (lv_sub hl ks hv)
theorem r_less {ρ : Type} {enc : ρ → Option Value} {lo n : Nat} {ad : Nat → Nat} {n0 : Nat} {ad0 : Nat → Nat} {own : String} {cc : ByteArray} {nL : Nat} {ret : Option FieldType} {Ts : List Cond} {fr lc B : Nat} {res : sR ρ} {V : sV} (C : sCX enc lo n ad n0 ad0 own cc nL ret Ts fr lc B res V) {b pc : Nat} {lv : List (Nat × Value)} {st : List Value} {m : sM} {b' : Nat} (hle : b' ≤ b) (k : V b' pc lv st m) : V b pc lv st m := by
  obtain ⟨p, l, e, s, mi, args, below, meth, c, dC, dI, dA, A, hx, hb, hml, hown, hts, hr, hlocks, hno, hst, hK, hA1, hpw, hE, rfl⟩ := C
  intro H locs ls cells slots hc hs hP hD hS hl
  exact k H locs ls cells slots (by omega) (by omega) hP hD hS hl
theorem r_geti {ρ : Type} {enc : ρ → Option Value} {lo n : Nat} {ad : Nat → Nat} {n0 : Nat} {ad0 : Nat → Nat} {own : String} {cc : ByteArray} {nL : Nat} {ret : Option FieldType} {Ts : List Cond} {fr lc B : Nat} {res : sR ρ} {V : sV} (C : sCX enc lo n ad n0 ad0 own cc nL ret Ts fr lc B res V) {b pc : Nat} {lv : List (Nat × Value)} {st : List Value} {m : sM} {ci k9 N index a g : Nat} {Cn : String} {T : u_T} {fs : List (Nat × Nat × Nat)} (hd : decode cc pc = .ok (.getfield index, 3)) (hc9 : vwCl[ci]? = some (Cn, T, N)) (hin : ∀ w ∈ u_ws Cn T N, w ∈ Ts) (hk : k9 < N) (hlk : Cond.fieldLink own index (T k9).1 (T k9).2.1 (T k9).2.2.1 ∈ Ts) (ha : lo ≤ a ∧ a < lo + n) (hL : sLay a = .inl (ci, fs)) (hf : fs[k9]? = some (k9, 0, g)) (k : V b (pc + 3) lv (.int (m.1 a k9) :: st) m) : V b pc lv (.ref (ad a) :: st) m := by
  obtain ⟨p, l, e, s, mi, args, below, meth, c, dC, dI, dA, A, hx, hb, hml, hown, hts, hr, hlocks, hno, hst, hK, hA1, hpw, hE, rfl⟩ := C
  intro H locs ls cells slots hc hs hP hD hS hl
  exact va_get (D := (dC, dI)) (ci := ci) (v := .int (m.1 a k9)) hx hb hts hin hown hK hP (a - lo) (by rw [s_at ha, s_ent_obj hL]) hc9 k9 hk (hts _ hlk) (fun _ h9 => h9) (by rw [List.getElem?_map, hf]; simp [s_fv]) hd (k H locs ls cells slots hc hs hP hD hS hl)
theorem r_getl {ρ : Type} {enc : ρ → Option Value} {lo n : Nat} {ad : Nat → Nat} {n0 : Nat} {ad0 : Nat → Nat} {own : String} {cc : ByteArray} {nL : Nat} {ret : Option FieldType} {Ts : List Cond} {fr lc B : Nat} {res : sR ρ} {V : sV} (C : sCX enc lo n ad n0 ad0 own cc nL ret Ts fr lc B res V) {b pc : Nat} {lv : List (Nat × Value)} {st : List Value} {m : sM} {ci k9 N index a g : Nat} {Cn : String} {T : u_T} {fs : List (Nat × Nat × Nat)} (hd : decode cc pc = .ok (.getfield index, 3)) (hc9 : vwCl[ci]? = some (Cn, T, N)) (hin : ∀ w ∈ u_ws Cn T N, w ∈ Ts) (hk : k9 < N) (hlk : Cond.fieldLink own index (T k9).1 (T k9).2.1 (T k9).2.2.1 ∈ Ts) (ha : lo ≤ a ∧ a < lo + n) (hL : sLay a = .inl (ci, fs)) (hf : fs[k9]? = some (k9, 1, g)) (k : V b (pc + 3) lv (.long (m.2 a k9) :: st) m) : V b pc lv (.ref (ad a) :: st) m := by
  obtain ⟨p, l, e, s, mi, args, below, meth, c, dC, dI, dA, A, hx, hb, hml, hown, hts, hr, hlocks, hno, hst, hK, hA1, hpw, hE, rfl⟩ := C
  intro H locs ls cells slots hc hs hP hD hS hl
  exact va_get (D := (dC, dI)) (ci := ci) (v := .long (m.2 a k9)) hx hb hts hin hown hK hP (a - lo) (by rw [s_at ha, s_ent_obj hL]) hc9 k9 hk (hts _ hlk) (fun _ h9 => h9) (by rw [List.getElem?_map, hf]; simp [s_fv]) hd (k H locs ls cells slots hc hs hP hD hS hl)
theorem r_getr {ρ : Type} {enc : ρ → Option Value} {lo n : Nat} {ad : Nat → Nat} {n0 : Nat} {ad0 : Nat → Nat} {own : String} {cc : ByteArray} {nL : Nat} {ret : Option FieldType} {Ts : List Cond} {fr lc B : Nat} {res : sR ρ} {V : sV} (C : sCX enc lo n ad n0 ad0 own cc nL ret Ts fr lc B res V) {b pc : Nat} {lv : List (Nat × Value)} {st : List Value} {m : sM} {ci k9 N index a g : Nat} {Cn : String} {T : u_T} {fs : List (Nat × Nat × Nat)} (hd : decode cc pc = .ok (.getfield index, 3)) (hc9 : vwCl[ci]? = some (Cn, T, N)) (hin : ∀ w ∈ u_ws Cn T N, w ∈ Ts) (hk : k9 < N) (hlk : Cond.fieldLink own index (T k9).1 (T k9).2.1 (T k9).2.2.1 ∈ Ts) (ha : lo ≤ a ∧ a < lo + n) (hL : sLay a = .inl (ci, fs)) (hf : fs[k9]? = some (k9, 2, g)) (k : V b (pc + 3) lv (.ref (ad g) :: st) m) : V b pc lv (.ref (ad a) :: st) m := by
  obtain ⟨p, l, e, s, mi, args, below, meth, c, dC, dI, dA, A, hx, hb, hml, hown, hts, hr, hlocks, hno, hst, hK, hA1, hpw, hE, rfl⟩ := C
  intro H locs ls cells slots hc hs hP hD hS hl
  exact va_get (D := (dC, dI)) (ci := ci) (v := .ref (ad g)) hx hb hts hin hown hK hP (a - lo) (by rw [s_at ha, s_ent_obj hL]) hc9 k9 hk (hts _ hlk) (fun _ h9 => h9) (by rw [List.getElem?_map, hf]; simp [s_fv]) hd (k H locs ls cells slots hc hs hP hD hS hl)
theorem r_puti {ρ : Type} {enc : ρ → Option Value} {lo n : Nat} {ad : Nat → Nat} {n0 : Nat} {ad0 : Nat → Nat} {own : String} {cc : ByteArray} {nL : Nat} {ret : Option FieldType} {Ts : List Cond} {fr lc B : Nat} {res : sR ρ} {V : sV} (C : sCX enc lo n ad n0 ad0 own cc nL ret Ts fr lc B res V) {b pc : Nat} {lv : List (Nat × Value)} {st : List Value} {m : sM} {ci k9 N index a g : Nat} {Cn : String} {T : u_T} {fs : List (Nat × Nat × Nat)} {x : Int32} {ty : FieldType} {X : sM → Option (sR ρ)} (hd : decode cc pc = .ok (.putfield index, 3)) (hc9 : vwCl[ci]? = some (Cn, T, N)) (hin : ∀ w ∈ u_ws Cn T N, w ∈ Ts) (hk : k9 < N) (hlk : Cond.fieldLink own index (T k9).1 (T k9).2.1 (T k9).2.2.1 ∈ Ts) (ha : lo ≤ a ∧ a < lo + n) (hL : sLay a = .inl (ci, fs)) (hf : fs[k9]? = some (k9, 0, g))  (ty0 : Nat → FieldType) (hty : ∀ k, k < N → parseFieldDescriptor (T k).2.2.1 = some (ty0 k)) (hnm : ∀ a, a < N → ∀ b, b < N → a ≠ b → (T a).2.1 ≠ (T b).2.1) (hfin : (T k9).2.2.2 = false) (hdt : parseFieldDescriptor (T k9).2.2.1 = some ty) (hnw : narrow ty (.int x) = .int x) (hft : fits ty (.int x) = true) (h : s_md (s_up m a k9 x) X = some res) (k : ∀ m', m' = s_up m a k9 x → X m' = some res → V b (pc + 3) lv st m') : V b pc lv (.int x :: .ref (ad a) :: st) m := by
  obtain ⟨p, l, e, s, mi, args, below, meth, c, dC, dI, dA, A, hx, hb, hml, hown, hts, hr, hlocks, hno, hst, hK, hA1, hpw, hE, rfl⟩ := C
  intro H locs ls cells slots hc hs hP hD hS hl
  have hlen : k9 < (fs.map (s_fv ad m a)).length := by rw [List.length_map]; exact (List.getElem?_eq_some_iff.mp hf).1
  refine va_put (D := (dC, dI)) (ci := ci) (v := .int x) hx hb hts hin ty0 hty hnm hown hK hP hD hS (a - lo) (by rw [s_at ha, s_ent_obj hL]) hc9 k9 hk (hts _ hlk) (fun _ h9 => h9) hfin hdt hnw hft hlen hd (fun H locs hP hD hS => ?_)
  have e9 : (s_w dA ad lo n m).set (a - lo) (ad a, .inr (ci, (fs.map (s_fv ad m a)).set k9 (.int x))) = s_w dA ad lo n (s_up m a k9 x) := s_set ha (fun b9 h9 => s_up_ne h9) (fun b9 h9 => rfl) (s_put_i hL hf)
  rw [e9] at hP hD
  exact k _ rfl h H locs ls cells slots hc hs hP hD hS hl
theorem r_putl {ρ : Type} {enc : ρ → Option Value} {lo n : Nat} {ad : Nat → Nat} {n0 : Nat} {ad0 : Nat → Nat} {own : String} {cc : ByteArray} {nL : Nat} {ret : Option FieldType} {Ts : List Cond} {fr lc B : Nat} {res : sR ρ} {V : sV} (C : sCX enc lo n ad n0 ad0 own cc nL ret Ts fr lc B res V) {b pc : Nat} {lv : List (Nat × Value)} {st : List Value} {m : sM} {ci k9 N index a g : Nat} {Cn : String} {T : u_T} {fs : List (Nat × Nat × Nat)} {x : Int64} {ty : FieldType} {X : sM → Option (sR ρ)} (hd : decode cc pc = .ok (.putfield index, 3)) (hc9 : vwCl[ci]? = some (Cn, T, N)) (hin : ∀ w ∈ u_ws Cn T N, w ∈ Ts) (hk : k9 < N) (hlk : Cond.fieldLink own index (T k9).1 (T k9).2.1 (T k9).2.2.1 ∈ Ts) (ha : lo ≤ a ∧ a < lo + n) (hL : sLay a = .inl (ci, fs)) (hf : fs[k9]? = some (k9, 1, g))  (ty0 : Nat → FieldType) (hty : ∀ k, k < N → parseFieldDescriptor (T k).2.2.1 = some (ty0 k)) (hnm : ∀ a, a < N → ∀ b, b < N → a ≠ b → (T a).2.1 ≠ (T b).2.1) (hfin : (T k9).2.2.2 = false) (hdt : parseFieldDescriptor (T k9).2.2.1 = some ty) (hnw : narrow ty (.long x) = .long x) (hft : fits ty (.long x) = true) (h : s_md (s_uL m a k9 x) X = some res) (k : ∀ m', m' = s_uL m a k9 x → X m' = some res → V b (pc + 3) lv st m') : V b pc lv (.long x :: .ref (ad a) :: st) m := by
  obtain ⟨p, l, e, s, mi, args, below, meth, c, dC, dI, dA, A, hx, hb, hml, hown, hts, hr, hlocks, hno, hst, hK, hA1, hpw, hE, rfl⟩ := C
  intro H locs ls cells slots hc hs hP hD hS hl
  have hlen : k9 < (fs.map (s_fv ad m a)).length := by rw [List.length_map]; exact (List.getElem?_eq_some_iff.mp hf).1
  refine va_put (D := (dC, dI)) (ci := ci) (v := .long x) hx hb hts hin ty0 hty hnm hown hK hP hD hS (a - lo) (by rw [s_at ha, s_ent_obj hL]) hc9 k9 hk (hts _ hlk) (fun _ h9 => h9) hfin hdt hnw hft hlen hd (fun H locs hP hD hS => ?_)
  have e9 : (s_w dA ad lo n m).set (a - lo) (ad a, .inr (ci, (fs.map (s_fv ad m a)).set k9 (.long x))) = s_w dA ad lo n (s_uL m a k9 x) := s_set ha (fun b9 h9 => rfl) (fun b9 h9 => s_uL_ne h9) (s_put_l hL hf)
  rw [e9] at hP hD
  exact k _ rfl h H locs ls cells slots hc hs hP hD hS hl
theorem r_iald {ρ : Type} {enc : ρ → Option Value} {lo n : Nat} {ad : Nat → Nat} {n0 : Nat} {ad0 : Nat → Nat} {own : String} {cc : ByteArray} {nL : Nat} {ret : Option FieldType} {Ts : List Cond} {fr lc B : Nat} {res : sR ρ} {V : sV} (C : sCX enc lo n ad n0 ad0 own cc nL ret Ts fr lc B res V) {b pc : Nat} {lv : List (Nat × Value)} {st : List Value} {m : sM} {a N : Nat} {ix : Int32} {X : Nat → Option (sR ρ)} (hd : decode cc pc = .ok (.iaload, 1)) (ha : lo ≤ a ∧ a < lo + n) (hL : sLay a = .inr (0, N, none)) (h : s_ix ix N X = some res) (k : ∀ j, j < N → X j = some res → V b (pc + 1) lv (.int (m.1 a j) :: st) m) : V b pc lv (.int ix :: .ref (ad a) :: st) m := by
  obtain ⟨p, l, e, s, mi, args, below, meth, c, dC, dI, dA, A, hx, hb, hml, hown, hts, hr, hlocks, hno, hst, hK, hA1, hpw, hE, rfl⟩ := C
  intro H locs ls cells slots hc hs hP hD hS hl
  obtain ⟨hin, h⟩ := s_gd_of h
  exact va_iald (D := (dC, dI)) hx hb hK hP (a - lo) 0 (cA := dA 0) (n := N) (f := m.1 a) (by rw [s_at ha, hL]; rfl) rfl hin hd (k _ (Nat.not_le.mp fun q => hin (Or.inr q)) h H locs ls cells slots hc hs hP hD hS hl)
theorem r_zald {ρ : Type} {enc : ρ → Option Value} {lo n : Nat} {ad : Nat → Nat} {n0 : Nat} {ad0 : Nat → Nat} {own : String} {cc : ByteArray} {nL : Nat} {ret : Option FieldType} {Ts : List Cond} {fr lc B : Nat} {res : sR ρ} {V : sV} (C : sCX enc lo n ad n0 ad0 own cc nL ret Ts fr lc B res V) {b pc : Nat} {lv : List (Nat × Value)} {st : List Value} {m : sM} {a N : Nat} {ix : Int32} {X : Nat → Option (sR ρ)} (hd : decode cc pc = .ok (.baload, 1)) (ha : lo ≤ a ∧ a < lo + n) (hL : sLay a = .inr (1, N, none)) (h : s_ix ix N X = some res) (k : ∀ j, j < N → X j = some res → V b (pc + 1) lv (.int (m.1 a j) :: st) m) : V b pc lv (.int ix :: .ref (ad a) :: st) m := by
  obtain ⟨p, l, e, s, mi, args, below, meth, c, dC, dI, dA, A, hx, hb, hml, hown, hts, hr, hlocks, hno, hst, hK, hA1, hpw, hE, rfl⟩ := C
  intro H locs ls cells slots hc hs hP hD hS hl
  obtain ⟨hin, h⟩ := s_gd_of h
  exact va_zald (D := (dC, dI)) hx hb hK hP (a - lo) 1 (cA := dA 1) (n := N) (f := m.1 a) (by rw [s_at ha, hL]; rfl) rfl hin hd (k _ (Nat.not_le.mp fun q => hin (Or.inr q)) h H locs ls cells slots hc hs hP hD hS hl)
theorem r_cald {ρ : Type} {enc : ρ → Option Value} {lo n : Nat} {ad : Nat → Nat} {n0 : Nat} {ad0 : Nat → Nat} {own : String} {cc : ByteArray} {nL : Nat} {ret : Option FieldType} {Ts : List Cond} {fr lc B : Nat} {res : sR ρ} {V : sV} (C : sCX enc lo n ad n0 ad0 own cc nL ret Ts fr lc B res V) {b pc : Nat} {lv : List (Nat × Value)} {st : List Value} {m : sM} {a N : Nat} {ix : Int32} {X : Nat → Option (sR ρ)} (hd : decode cc pc = .ok (.caload, 1)) (ha : lo ≤ a ∧ a < lo + n) (hL : sLay a = .inr (2, N, none)) (h : s_ix ix N X = some res) (k : ∀ j, j < N → X j = some res → V b (pc + 1) lv (.int (m.1 a j) :: st) m) : V b pc lv (.int ix :: .ref (ad a) :: st) m := by
  obtain ⟨p, l, e, s, mi, args, below, meth, c, dC, dI, dA, A, hx, hb, hml, hown, hts, hr, hlocks, hno, hst, hK, hA1, hpw, hE, rfl⟩ := C
  intro H locs ls cells slots hc hs hP hD hS hl
  obtain ⟨hin, h⟩ := s_gd_of h
  exact va_cald (D := (dC, dI)) hx hb hK hP (a - lo) 2 (cA := dA 2) (n := N) (f := m.1 a) (by rw [s_at ha, hL]; rfl) rfl hin hd (k _ (Nat.not_le.mp fun q => hin (Or.inr q)) h H locs ls cells slots hc hs hP hD hS hl)
theorem r_lald {ρ : Type} {enc : ρ → Option Value} {lo n : Nat} {ad : Nat → Nat} {n0 : Nat} {ad0 : Nat → Nat} {own : String} {cc : ByteArray} {nL : Nat} {ret : Option FieldType} {Ts : List Cond} {fr lc B : Nat} {res : sR ρ} {V : sV} (C : sCX enc lo n ad n0 ad0 own cc nL ret Ts fr lc B res V) {b pc : Nat} {lv : List (Nat × Value)} {st : List Value} {m : sM} {a N : Nat} {ix : Int32} {X : Nat → Option (sR ρ)} (hd : decode cc pc = .ok (.laload, 1)) (ha : lo ≤ a ∧ a < lo + n) (hL : sLay a = .inr (7, N, none)) (h : s_ix ix N X = some res) (k : ∀ j, j < N → X j = some res → V b (pc + 1) lv (.long (m.2 a j) :: st) m) : V b pc lv (.int ix :: .ref (ad a) :: st) m := by
  obtain ⟨p, l, e, s, mi, args, below, meth, c, dC, dI, dA, A, hx, hb, hml, hown, hts, hr, hlocks, hno, hst, hK, hA1, hpw, hE, rfl⟩ := C
  intro H locs ls cells slots hc hs hP hD hS hl
  obtain ⟨hin, h⟩ := s_gd_of h
  exact va_lald (D := (dC, dI)) hx hb hK hP (a - lo) 7 (cA := dA 7) (n := N) (f := m.2 a) (by rw [s_at ha, hL]; rfl) rfl hin hd (k _ (Nat.not_le.mp fun q => hin (Or.inr q)) h H locs ls cells slots hc hs hP hD hS hl)
theorem r_iast {ρ : Type} {enc : ρ → Option Value} {lo n : Nat} {ad : Nat → Nat} {n0 : Nat} {ad0 : Nat → Nat} {own : String} {cc : ByteArray} {nL : Nat} {ret : Option FieldType} {Ts : List Cond} {fr lc B : Nat} {res : sR ρ} {V : sV} (C : sCX enc lo n ad n0 ad0 own cc nL ret Ts fr lc B res V) {b pc : Nat} {lv : List (Nat × Value)} {st : List Value} {m : sM} {a N : Nat} {ix x : Int32} {X : sM → Option (sR ρ)} (hd : decode cc pc = .ok (.iastore, 1)) (ha : lo ≤ a ∧ a < lo + n) (hL : sLay a = .inr (0, N, none)) (h : s_ix ix N (fun j => s_md (s_up m a j x) X) = some res) (k : ∀ j m', j < N → m' = s_up m a j x → X m' = some res → V b (pc + 1) lv st m') : V b pc lv (.int x :: .int ix :: .ref (ad a) :: st) m := by
  obtain ⟨p, l, e, s, mi, args, below, meth, c, dC, dI, dA, A, hx, hb, hml, hown, hts, hr, hlocks, hno, hst, hK, hA1, hpw, hE, rfl⟩ := C
  intro H locs ls cells slots hc hs hP hD hS hl
  obtain ⟨hin, h⟩ := s_gd_of h
  refine va_iast (D := (dC, dI)) hx hb hK hP hD hS (a - lo) 0 (cA := dA 0) (n := N) (f := m.1 a) (by rw [s_at ha, hL]; rfl) rfl hin hd (fun H locs hP hD hS => ?_)
  have e9 : (s_w dA ad lo n m).set (a - lo) (ad a, .inl (dA 0, N, .inl (upd (m.1 a) ix.toNatClampNeg x))) = s_w dA ad lo n (s_up m a ix.toNatClampNeg x) := s_set ha (fun b9 h9 => s_up_ne h9) (fun b9 h9 => rfl) (by rw [hL]; unfold s_ent; rw [s_up_eq]; rfl)
  rw [e9] at hP hD
  exact k _ _ (Nat.not_le.mp fun q => hin (Or.inr q)) rfl h H locs ls cells slots hc hs hP hD hS hl
theorem r_zast {ρ : Type} {enc : ρ → Option Value} {lo n : Nat} {ad : Nat → Nat} {n0 : Nat} {ad0 : Nat → Nat} {own : String} {cc : ByteArray} {nL : Nat} {ret : Option FieldType} {Ts : List Cond} {fr lc B : Nat} {res : sR ρ} {V : sV} (C : sCX enc lo n ad n0 ad0 own cc nL ret Ts fr lc B res V) {b pc : Nat} {lv : List (Nat × Value)} {st : List Value} {m : sM} {a N : Nat} {ix x : Int32} {X : sM → Option (sR ρ)} (hd : decode cc pc = .ok (.bastore, 1)) (ha : lo ≤ a ∧ a < lo + n) (hL : sLay a = .inr (1, N, none)) (h : s_ix ix N (fun j => s_md (s_up m a j (vp_nar .boolean x)) X) = some res) (k : ∀ j m', j < N → m' = s_up m a j (vp_nar .boolean x) → X m' = some res → V b (pc + 1) lv st m') : V b pc lv (.int x :: .int ix :: .ref (ad a) :: st) m := by
  obtain ⟨p, l, e, s, mi, args, below, meth, c, dC, dI, dA, A, hx, hb, hml, hown, hts, hr, hlocks, hno, hst, hK, hA1, hpw, hE, rfl⟩ := C
  intro H locs ls cells slots hc hs hP hD hS hl
  obtain ⟨hin, h⟩ := s_gd_of h
  refine va_zast (D := (dC, dI)) hx hb hK hP hD hS (a - lo) 1 (cA := dA 1) (n := N) (f := m.1 a) (by rw [s_at ha, hL]; rfl) rfl hin hd (fun H locs hP hD hS => ?_)
  have e9 : (s_w dA ad lo n m).set (a - lo) (ad a, .inl (dA 1, N, .inl (upd (m.1 a) ix.toNatClampNeg (vp_nar .boolean x)))) = s_w dA ad lo n (s_up m a ix.toNatClampNeg (vp_nar .boolean x)) := s_set ha (fun b9 h9 => s_up_ne h9) (fun b9 h9 => rfl) (by rw [hL]; unfold s_ent; rw [s_up_eq]; rfl)
  rw [e9] at hP hD
  exact k _ _ (Nat.not_le.mp fun q => hin (Or.inr q)) rfl h H locs ls cells slots hc hs hP hD hS hl
theorem r_cast {ρ : Type} {enc : ρ → Option Value} {lo n : Nat} {ad : Nat → Nat} {n0 : Nat} {ad0 : Nat → Nat} {own : String} {cc : ByteArray} {nL : Nat} {ret : Option FieldType} {Ts : List Cond} {fr lc B : Nat} {res : sR ρ} {V : sV} (C : sCX enc lo n ad n0 ad0 own cc nL ret Ts fr lc B res V) {b pc : Nat} {lv : List (Nat × Value)} {st : List Value} {m : sM} {a N : Nat} {ix x : Int32} {X : sM → Option (sR ρ)} (hd : decode cc pc = .ok (.castore, 1)) (ha : lo ≤ a ∧ a < lo + n) (hL : sLay a = .inr (2, N, none)) (h : s_ix ix N (fun j => s_md (s_up m a j (vp_nar .char x)) X) = some res) (k : ∀ j m', j < N → m' = s_up m a j (vp_nar .char x) → X m' = some res → V b (pc + 1) lv st m') : V b pc lv (.int x :: .int ix :: .ref (ad a) :: st) m := by
  obtain ⟨p, l, e, s, mi, args, below, meth, c, dC, dI, dA, A, hx, hb, hml, hown, hts, hr, hlocks, hno, hst, hK, hA1, hpw, hE, rfl⟩ := C
  intro H locs ls cells slots hc hs hP hD hS hl
  obtain ⟨hin, h⟩ := s_gd_of h
  refine va_cast (D := (dC, dI)) hx hb hK hP hD hS (a - lo) 2 (cA := dA 2) (n := N) (f := m.1 a) (by rw [s_at ha, hL]; rfl) rfl hin hd (fun H locs hP hD hS => ?_)
  have e9 : (s_w dA ad lo n m).set (a - lo) (ad a, .inl (dA 2, N, .inl (upd (m.1 a) ix.toNatClampNeg (vp_nar .char x)))) = s_w dA ad lo n (s_up m a ix.toNatClampNeg (vp_nar .char x)) := s_set ha (fun b9 h9 => s_up_ne h9) (fun b9 h9 => rfl) (by rw [hL]; unfold s_ent; rw [s_up_eq]; rfl)
  rw [e9] at hP hD
  exact k _ _ (Nat.not_le.mp fun q => hin (Or.inr q)) rfl h H locs ls cells slots hc hs hP hD hS hl
theorem r_last {ρ : Type} {enc : ρ → Option Value} {lo n : Nat} {ad : Nat → Nat} {n0 : Nat} {ad0 : Nat → Nat} {own : String} {cc : ByteArray} {nL : Nat} {ret : Option FieldType} {Ts : List Cond} {fr lc B : Nat} {res : sR ρ} {V : sV} (C : sCX enc lo n ad n0 ad0 own cc nL ret Ts fr lc B res V) {b pc : Nat} {lv : List (Nat × Value)} {st : List Value} {m : sM} {a N : Nat} {ix : Int32} {x : Int64} {X : sM → Option (sR ρ)} (hd : decode cc pc = .ok (.lastore, 1)) (ha : lo ≤ a ∧ a < lo + n) (hL : sLay a = .inr (7, N, none)) (h : s_ix ix N (fun j => s_md (s_uL m a j x) X) = some res) (k : ∀ j m', j < N → m' = s_uL m a j x → X m' = some res → V b (pc + 1) lv st m') : V b pc lv (.long x :: .int ix :: .ref (ad a) :: st) m := by
  obtain ⟨p, l, e, s, mi, args, below, meth, c, dC, dI, dA, A, hx, hb, hml, hown, hts, hr, hlocks, hno, hst, hK, hA1, hpw, hE, rfl⟩ := C
  intro H locs ls cells slots hc hs hP hD hS hl
  obtain ⟨hin, h⟩ := s_gd_of h
  refine va_last (D := (dC, dI)) hx hb hK hP hD hS (a - lo) 7 (cA := dA 7) (n := N) (f := m.2 a) (by rw [s_at ha, hL]; rfl) rfl hin hd (fun H locs hP hD hS => ?_)
  have e9 : (s_w dA ad lo n m).set (a - lo) (ad a, .inl (dA 7, N, .inr (.inl (vp_updL (m.2 a) ix.toNatClampNeg x)))) = s_w dA ad lo n (s_uL m a ix.toNatClampNeg x) := s_set ha (fun b9 h9 => rfl) (fun b9 h9 => s_uL_ne h9) (by rw [hL]; unfold s_ent; rw [s_uL_eq]; rfl)
  rw [e9] at hP hD
  exact k _ _ (Nat.not_le.mp fun q => hin (Or.inr q)) rfl h H locs ls cells slots hc hs hP hD hS hl
theorem r_alen {ρ : Type} {enc : ρ → Option Value} {lo n : Nat} {ad : Nat → Nat} {n0 : Nat} {ad0 : Nat → Nat} {own : String} {cc : ByteArray} {nL : Nat} {ret : Option FieldType} {Ts : List Cond} {fr lc B : Nat} {res : sR ρ} {V : sV} (C : sCX enc lo n ad n0 ad0 own cc nL ret Ts fr lc B res V) {b pc : Nat} {lv : List (Nat × Value)} {st : List Value} {m : sM} {a N t : Nat} {r : Option (Nat × Nat)} {ty : FieldType} {v : Int32} (hd : decode cc pc = .ok (.arraylength, 1)) (ha : lo ≤ a ∧ a < lo + n) (hL : sLay a = .inr (t, N, r)) (ht : ∀ dA, (s_tys dA)[t]? = some (dA t, ty)) (hv : Int32.ofNat N = v) (k : V b (pc + 1) lv (.int v :: st) m) : V b pc lv (.ref (ad a) :: st) m := by
  obtain ⟨p, l, e, s, mi, args, below, meth, c, dC, dI, dA, A, hx, hb, hml, hown, hts, hr, hlocks, hno, hst, hK, hA1, hpw, hE, rfl⟩ := C
  intro H locs ls cells slots hc hs hP hD hS hl
  cases r with
  | none => exact va_alen (D := (dC, dI)) hx hb hK hP (a - lo) t (cA := dA t) (by rw [s_at ha, hL]; rfl) (ht dA) hv hd (k H locs ls cells slots hc hs hP hD hS hl)
  | some r => exact va_alen (D := (dC, dI)) hx hb hK hP (a - lo) t (cA := dA t) (by rw [s_at ha, hL]; rfl) (ht dA) hv hd (k H locs ls cells slots hc hs hP hD hS hl)
theorem r_aald {ρ : Type} {enc : ρ → Option Value} {lo n : Nat} {ad : Nat → Nat} {n0 : Nat} {ad0 : Nat → Nat} {own : String} {cc : ByteArray} {nL : Nat} {ret : Option FieldType} {Ts : List Cond} {fr lc B : Nat} {res : sR ρ} {V : sV} (C : sCX enc lo n ad n0 ad0 own cc nL ret Ts fr lc B res V) {b pc : Nat} {lv : List (Nat × Value)} {st : List Value} {m : sM} {a N t b0 d0 : Nat} {ty : FieldType} {ix : Int32} {X : Nat → Option (sR ρ)} (hd : decode cc pc = .ok (.aaload, 1)) (ha : lo ≤ a ∧ a < lo + n) (hL : sLay a = .inr (t, N, some (b0, d0))) (ht : ∀ dA, (s_tys dA)[t]? = some (dA t, ty)) (hrk : refKind ty = true) (h : s_ix ix N X = some res) (k : ∀ j, j < N → X j = some res → V b (pc + 1) lv (.ref (ad (b0 + d0 * j)) :: st) m) : V b pc lv (.int ix :: .ref (ad a) :: st) m := by
  obtain ⟨p, l, e, s, mi, args, below, meth, c, dC, dI, dA, A, hx, hb, hml, hown, hts, hr, hlocks, hno, hst, hK, hA1, hpw, hE, rfl⟩ := C
  intro H locs ls cells slots hc hs hP hD hS hl
  obtain ⟨hin, h⟩ := s_gd_of h
  have hlt : ix.toNatClampNeg < N := Nat.not_le.mp fun q => hin (Or.inr q)
  have hcell := hP (a - lo) _ (by rw [s_at ha, hL] : (s_w dA ad lo n m)[a - lo]? = some (ad a, s_ent dA ad m a (.inr (t, N, some (b0, d0)))))
  exact W.aald (v := .ref (ad (b0 + d0 * ix.toNatClampNeg))) (ty := ty) hx hb hcell ((hK.2 t _ (ht dA)).1 N (fun j => va_rf (some (ad (b0 + d0 * j))))) hrk (fun q => by cases q) (by show ¬ (ix < 0 ∨ (arrV _ _ _).slots.size ≤ _); rw [arrV_size]; exact hin) (by show (arrV _ _ _).slots[_]? = _; rw [arrV_read _ _ hlt]; rfl) rfl rfl hd (k _ hlt h H locs ls cells slots hc hs hP hD hS hl)
theorem r_iret  {lo n : Nat} {ad : Nat → Nat} {n0 : Nat} {ad0 : Nat → Nat} {own : String} {cc : ByteArray} {nL : Nat} {ret : Option FieldType} {Ts : List Cond} {fr lc B : Nat} {res : sR Int32} {V : sV} (C : sCX s_i lo n ad n0 ad0 own cc nL ret Ts fr lc B res V) {b pc : Nat} {lv : List (Nat × Value)} {m : sM} {x : Int32} (hd : decode cc pc = .ok (.ireturn, 1)) (hret : ret = some .int) (h : some (.inl x, m) = some res) : V b pc lv [.int x] m := by
  obtain ⟨p, l, e, s, mi, args, below, meth, c, dC, dI, dA, A, hx, hb, hml, hown, hts, hr, hlocks, hno, hst, hK, hA1, hpw, hE, rfl⟩ := C
  intro H locs ls cells slots hc hs hP hD hS hl
  subst hret
  refine W.widen (k := B) (n := 6 * B) (by omega) (by omega) ?_
  exact vx_ret (W.iret (v := x) hx hb hr (fun t ht hW => ⟨⟨_, m, (Option.some.inj h).symm, rfl, ⟨by rw [ht]; exact (hpw _ _ _ hP hD).1, (hpw _ _ _ hP hD).2⟩⟩, hS.F ht⟩) hS.2.2 hd)
theorem r_zret  {lo n : Nat} {ad : Nat → Nat} {n0 : Nat} {ad0 : Nat → Nat} {own : String} {cc : ByteArray} {nL : Nat} {ret : Option FieldType} {Ts : List Cond} {fr lc B : Nat} {res : sR Int32} {V : sV} (C : sCX s_i lo n ad n0 ad0 own cc nL ret Ts fr lc B res V) {b pc : Nat} {lv : List (Nat × Value)} {m : sM} {x : Int32} {ty : FieldType} (hd : decode cc pc = .ok (.ireturn, 1)) (hret : ret = some ty) (hnw : narrow ty (.int x) = .int x) (h : some (.inl x, m) = some res) : V b pc lv [.int x] m := by
  obtain ⟨p, l, e, s, mi, args, below, meth, c, dC, dI, dA, A, hx, hb, hml, hown, hts, hr, hlocks, hno, hst, hK, hA1, hpw, hE, rfl⟩ := C
  intro H locs ls cells slots hc hs hP hD hS hl
  subst hret
  refine W.widen (k := B) (n := 6 * B) (by omega) (by omega) ?_
  exact vx_ret (W.zret (v := x) hx hb hr hnw (fun t ht hW => ⟨⟨_, m, (Option.some.inj h).symm, rfl, ⟨by rw [ht]; exact (hpw _ _ _ hP hD).1, (hpw _ _ _ hP hD).2⟩⟩, hS.F ht⟩) hS.2.2 hd)
theorem r_lret  {lo n : Nat} {ad : Nat → Nat} {n0 : Nat} {ad0 : Nat → Nat} {own : String} {cc : ByteArray} {nL : Nat} {ret : Option FieldType} {Ts : List Cond} {fr lc B : Nat} {res : sR Int64} {V : sV} (C : sCX s_l lo n ad n0 ad0 own cc nL ret Ts fr lc B res V) {b pc : Nat} {lv : List (Nat × Value)} {m : sM} {x : Int64} (hd : decode cc pc = .ok (.lreturn, 1)) (hret : ret = some .long) (h : some (.inl x, m) = some res) : V b pc lv [.long x] m := by
  obtain ⟨p, l, e, s, mi, args, below, meth, c, dC, dI, dA, A, hx, hb, hml, hown, hts, hr, hlocks, hno, hst, hK, hA1, hpw, hE, rfl⟩ := C
  intro H locs ls cells slots hc hs hP hD hS hl
  subst hret
  refine W.widen (k := B) (n := 6 * B) (by omega) (by omega) ?_
  exact vx_ret (W.lret (v := x) hx hb hr (fun t ht hW => ⟨⟨_, m, (Option.some.inj h).symm, rfl, ⟨by rw [ht]; exact (hpw _ _ _ hP hD).1, (hpw _ _ _ hP hD).2⟩⟩, hS.F ht⟩) hS.2.2 hd)
theorem r_vret  {lo n : Nat} {ad : Nat → Nat} {n0 : Nat} {ad0 : Nat → Nat} {own : String} {cc : ByteArray} {nL : Nat} {ret : Option FieldType} {Ts : List Cond} {fr lc B : Nat} {res : sR Unit} {V : sV} (C : sCX s_u lo n ad n0 ad0 own cc nL ret Ts fr lc B res V) {b pc : Nat} {lv : List (Nat × Value)} {m : sM} (hd : decode cc pc = .ok (.return_, 1)) (hret : ret = none) (h : some (.inl (), m) = some res) : V b pc lv [] m := by
  obtain ⟨p, l, e, s, mi, args, below, meth, c, dC, dI, dA, A, hx, hb, hml, hown, hts, hr, hlocks, hno, hst, hK, hA1, hpw, hE, rfl⟩ := C
  intro H locs ls cells slots hc hs hP hD hS hl
  subst hret
  refine W.widen (k := B) (n := 6 * B) (by omega) (by omega) ?_
  exact vx_ret (W.vret hx hb hr (fun t ht hW => ⟨⟨_, m, (Option.some.inj h).symm, rfl, ⟨by rw [ht]; exact (hpw _ _ _ hP hD).1, (hpw _ _ _ hP hD).2⟩⟩, hS.F ht⟩) hS.2.2 hd)
theorem r_throw {ρ : Type} {enc : ρ → Option Value} {lo n : Nat} {ad : Nat → Nat} {n0 : Nat} {ad0 : Nat → Nat} {own : String} {cc : ByteArray} {nL : Nat} {ret : Option FieldType} {Ts : List Cond} {fr lc B : Nat} {res : sR ρ} {V : sV} (C : sCX enc lo n ad n0 ad0 own cc nL ret Ts fr lc B res V) {b pc : Nat} {lv : List (Nat × Value)} {st : List Value} {m : sM} {cls text : String} {names : List String} {ik is ic : Nat} (d0 : decode cc pc = .ok (.new ik, 3)) (d3 : decode cc (pc + 3) = .ok (.dup, 1)) (d4 : decode cc (pc + 4) = .ok (.ldc is, 2)) (d6 : decode cc (pc + 6) = .ok (.invokespecial ic, 3)) (d9 : decode cc (pc + 9) = .ok (.athrow, 1)) (hcls : Bundle.fit cls = true) (hnames : ∀ n ∈ names, Bundle.fit n = true) (hk : Cond.classLink own ik cls ∈ Ts) (hini : Cond.initialized cls ∈ Ts) (hat : ∀ w ∈ (vx_atS own ic cls names).filter goodWord, w ∈ Ts) (hbad : ∀ w ∈ (vx_atS own ic cls names).filter (fun w => !goodWord w), w ∈ Cond.castable cls cls :: s_dec.map Cond.declares) (hgood : ∀ w ∈ Cond.classLink own ik cls :: Cond.initialized cls :: vx_atS own ic cls names, vx_ot w = true) (hexc : cls ∈ s_exc) (htx : (own, is, text) ∈ s_text) (hfr : names.length + 3 < fr) (hlc : (st.map fun v => v.category).sum + (13 * (names.length + 1) + 43) ≤ lc) (hb1 : 1 ≤ b) (h : some (.inr cls, m) = some res) : V b pc lv st m := by
  obtain ⟨p, l, e, s, mi, args, below, meth, c, dC, dI, dA, A, hx, hb, hml, hown, hts, hr, hlocks, hno, hst, hK, hA1, hpw, hE, rfl⟩ := C
  intro H locs ls cells slots hc hs hP hD hS hl
  obtain ⟨h1, h2, h3, h6, h7, h4, h5⟩ := hE
  obtain ⟨sa, hstr⟩ := h2 _ htx
  exact vx_throwS hx hb hst hown hcls hnames (hts _ hk) (hts _ hini) hstr (vx_hat (fun w hw => hts w (hat w hw)) hbad (vx_c ((h3 _ hexc).use rfl) (fun w hw => by obtain ⟨x, hx9, rfl⟩ := List.mem_map.mp hw; exact (h6 x hx9).use rfl))) hgood h4 h5 hS (hl.1.trans hml.symm) d0 d3 d4 d6 d9 (fun x hx9 => (hno x hx9).elim) hfr hlc (by show cells + 1 ≤ B; omega) (by show slots + 6 ≤ 6 * B; omega) hlocks
    (fun t hvm hsz hq => ⟨m, (Option.some.inj h).symm, hpw _ _ _ (hP.kept (fun k9 q9 hk9 => hq _ ((hP k9 q9 hk9).lt))) hD, ⟨Nat.le_trans hS.1 hsz, fun q h8 h9 => (hq q (Nat.lt_of_lt_of_le h8 hS.1)).trans (hS.2.1 q h8 h9)⟩⟩) hS.2.2 (by omega) (by omega)
theorem r_throwW {ρ : Type} {enc : ρ → Option Value} {lo n : Nat} {ad : Nat → Nat} {n0 : Nat} {ad0 : Nat → Nat} {own : String} {cc : ByteArray} {nL : Nat} {ret : Option FieldType} {Ts : List Cond} {fr lc B : Nat} {res : sR ρ} {V : sV} (C : sCX enc lo n ad n0 ad0 own cc nL ret Ts fr lc B res V) {b pc : Nat} {lv : List (Nat × Value)} {st : List Value} {m : sM} {cls text : String} {names : List String} {ik is ic : Nat} (d0 : decode cc pc = .ok (.new ik, 3)) (d3 : decode cc (pc + 3) = .ok (.dup, 1)) (d4 : decode cc (pc + 4) = .ok (.ldc_w is, 3)) (d6 : decode cc (pc + 7) = .ok (.invokespecial ic, 3)) (d9 : decode cc (pc + 10) = .ok (.athrow, 1)) (hcls : Bundle.fit cls = true) (hnames : ∀ n ∈ names, Bundle.fit n = true) (hk : Cond.classLink own ik cls ∈ Ts) (hini : Cond.initialized cls ∈ Ts) (hat : ∀ w ∈ (vx_atS own ic cls names).filter goodWord, w ∈ Ts) (hbad : ∀ w ∈ (vx_atS own ic cls names).filter (fun w => !goodWord w), w ∈ Cond.castable cls cls :: s_dec.map Cond.declares) (hgood : ∀ w ∈ Cond.classLink own ik cls :: Cond.initialized cls :: vx_atS own ic cls names, vx_ot w = true) (hexc : cls ∈ s_exc) (htx : (own, is, text) ∈ s_text) (hfr : names.length + 3 < fr) (hlc : (st.map fun v => v.category).sum + (13 * (names.length + 1) + 43) ≤ lc) (hb1 : 1 ≤ b) (h : some (.inr cls, m) = some res) : V b pc lv st m := by
  obtain ⟨p, l, e, s, mi, args, below, meth, c, dC, dI, dA, A, hx, hb, hml, hown, hts, hr, hlocks, hno, hst, hK, hA1, hpw, hE, rfl⟩ := C
  intro H locs ls cells slots hc hs hP hD hS hl
  obtain ⟨h1, h2, h3, h6, h7, h4, h5⟩ := hE
  obtain ⟨sa, hstr⟩ := h2 _ htx
  exact vx_throwSW hx hb hst hown hcls hnames (hts _ hk) (hts _ hini) hstr (vx_hat (fun w hw => hts w (hat w hw)) hbad (vx_c ((h3 _ hexc).use rfl) (fun w hw => by obtain ⟨x, hx9, rfl⟩ := List.mem_map.mp hw; exact (h6 x hx9).use rfl))) hgood h4 h5 hS (hl.1.trans hml.symm) d0 d3 d4 d6 d9 (fun x hx9 => (hno x hx9).elim) hfr hlc (by show cells + 1 ≤ B; omega) (by show slots + 6 ≤ 6 * B; omega) hlocks
    (fun t hvm hsz hq => ⟨m, (Option.some.inj h).symm, hpw _ _ _ (hP.kept (fun k9 q9 hk9 => hq _ ((hP k9 q9 hk9).lt))) hD, ⟨Nat.le_trans hS.1 hsz, fun q h8 h9 => (hq q (Nat.lt_of_lt_of_le h8 hS.1)).trans (hS.2.1 q h8 h9)⟩⟩) hS.2.2 (by omega) (by omega)
theorem r_callV {ρ : Type} {enc : ρ → Option Value} {lo n : Nat} {ad : Nat → Nat} {n0 : Nat} {ad0 : Nat → Nat} {own : String} {cc : ByteArray} {nL : Nat} {ret : Option FieldType} {Ts : List Cond} {fr lc B : Nat} {res : sR ρ} {V : sV} (C : sCX enc lo n ad n0 ad0 own cc nL ret Ts fr lc B res V) {b pc : Nat} {lv : List (Nat × Value)} {st : List Value} {m : sM} {σ : Type} {enc' : σ → Option Value} {y' : MethodName} {ws' w' : List Cond} {fr' lc' k9 : Nat} {f' : sM → Option (sR σ)} {mk' : (Nat → Nat) → List Value} {X : σ → sM → Option (sR ρ)} {index nn maxL' : Nat} {cc' : ByteArray} {ret' : Option FieldType} {stk As : List Value} {C' : String} {ci N a : Nat} {T : u_T} {fs : List (Nat × Nat × Nat)} (con : s_Con enc' lo n y' ws' fr' lc' k9 f' mk') (hd : decode cc pc = .ok (.invokevirtual index, 3)) (hG : GoodIn Ts (wsV own index C' y' ws')) (hd9 : y'.cls = C' ∧ y'.cls ≠ "java/lang/invoke/MethodHandle" ∧ y'.cls ≠ "java/lang/invoke/VarHandle" ∧ (parseMethodDescriptor y'.desc).map (fun d => d.parameters.length) = some nn) (ha : lo ≤ a ∧ a < lo + n) (hL : sLay a = .inl (ci, fs)) (hc9 : vwCl[ci]? = some (C', T, N)) (hmk : mk' ad = .ref (ad a) :: As) (hw : ws' = Cond.code y' cc' maxL' ret' :: w') (hR : fr' + 1 ≤ fr ∧ 8 + (maxL' + 11) + lc' ≤ lc) (hnn : As.length = nn) (hsk : stk = As.reverse ++ .ref (ad a) :: st) (hcat : (st.map fun v => v.category).sum ≤ 8) (hb1 : k9 ≤ b) (h : s_bd (f' m) X = some res) (k : ∀ r m', X r m' = some res → V (b - k9) (pc + 3) lv ((enc' r).toList ++ st) m') : V b pc lv stk m := by
  obtain ⟨p, l, e, s, mi, args, below, meth, c, dC, dI, dA, A, hx, hb, hml, hown, hts, hr, hlocks, hno, hst, hK, hA1, hpw, hE, rfl⟩ := C
  intro H locs ls cells slots hc hs hP hD hS hl
  subst hsk
  cases hfm : f' m with
  | none => rw [hfm] at h; cases h
  | some res' =>
  have hAA : ∀ q, s_A ad lo n H.size q → A q := fun q hq => hA1 q (s_A.le hS.1 q hq)
  have hcl9 : cells + k9 ≤ B := by omega
  have hsl9 : slots + 6 * k9 ≤ 6 * B := by omega
  have hbl : FrameBlind (s_Pc lo n dC dI dA ad (mk' ad) H.size m) := fun a U g mk q => by
    obtain ⟨q1, q2, q3, q4, q5, q6⟩ := q
    exact ⟨q1, q2, q3, va_K.moved (u := U) (U := U.calling g mk a) (Vm.Alike.refl U.vm) q4, q5, q6.same rfl rfl⟩
  have hpre : ∀ (av : Array Value), av = (mk' ad).toArray → ∀ U : State, U.heap = H → s.WarmedH U.vm → s_Pc lo n dC dI dA ad (mk' ad) H.size m av U := fun av hav U hU hW => ⟨hav, by rw [hU], by rw [hU]; exact hP, va_K.moved hW.alike hK, hD.weaken (fun _ _ _ _ => trivial), s_E.go hW hS hU hAA hE⟩
  have hrun := vx_runV (p := p) (l := l) (e := e) (R := ({ frames := fr, cells := B, slots := 6 * B, locals := lc } : Room)) (below := below) (meth := meth) (locs := locs) (cells := cells) (slots := slots) (As := As) (rest := st) (g := F0 mi pc ls (As.reverse ++ .ref (ad a) :: st)) ⟨hx, hb, hml, hown, hts⟩ (con l hst dC dI dA ad H.size m res' hfm) (cwV (C := C') nn hts hG hw rfl rfl hd9 hR) ⟨hbl, va_recv hK hP hc9 (by rw [s_at ha, s_ent_obj hL]), fun U hU hW => hpre _ (by rw [hmk]) U hU hW⟩ rfl hnn hl.1 rfl (lv_room hcat) hd ⟨hcl9, hsl9⟩
  intro T hT X9
  rcases hrun T hT X9 with ⟨v, st₀, t, T', L, h0, X', hL, e1, e2, ⟨⟨r, m', hres, hv, hPW, hDW⟩, hF⟩, hgo⟩ | ⟨q, st₀, t, T', L, E, ce, h0, X', hL, e1, e2, ⟨m', hres, ⟨hPW, hDW⟩, hF⟩, hce, hcv, hcl, hgo⟩
  · cases hv
    rw [hfm, hres] at h
    obtain ⟨k1, k2, k3⟩ := vx_keep h0 e1 hS (fun q _ hq => hAA q hq) hAA hL hF
    obtain ⟨t2, a1, b1⟩ := k r m' h T'.heap (locs ++ L) ls (cells + k9) (slots + 6 * k9) (by omega) (by omega) (by rw [e1]; exact hPW) (hDW.weaken (fun _ _ _ h9 => hAA _ h9)) k3 hl T' rfl X'
    exact ⟨t2, hgo t2 a1, b1⟩
  · rw [hfm, hres] at h
    obtain ⟨k1, k2, k3⟩ := vx_keep h0 e1 hS (fun q _ hq => hAA q hq) hAA hL hF
    have hout := vx_out (p := p) (l := l) (e := e) (R := ({ frames := fr, cells := B, slots := 6 * B, locals := lc } : Room)) (s := s) (m := mi) (args := args) (below := below) (meth := meth) (c := c) (H := T'.heap) (locs := locs ++ L) (cells := cells + k9) (slots := slots + 6 * k9) (ls := ls) (rest := st) (Qc := s_Q enc lo n0 dC dI dA ad0 A res) (XC := s_X lo n0 dC dI dA ad0 A res) (pc := pc) (E := E) (ce := ce) (q := q) (mc := B) (ms := 6 * B) (free := A) (fun x hx9 => (hno x hx9).elim) hlocks (by rw [e1]; exact hce) hcv hcl (fun t9 ht9 hW9 => ⟨m', (Option.some.inj h).symm, hpw _ _ _ (by rw [ht9, e1]; exact hPW) (hDW.weaken (fun _ _ _ h9 => hAA _ h9)), k3.F ht9⟩) k3.2.2 (by omega) (by omega)
    obtain ⟨t2, a1, b1⟩ := hout T' rfl X'
    exact ⟨t2, hgo.trans a1, b1⟩
theorem r_callS {ρ : Type} {enc : ρ → Option Value} {lo n : Nat} {ad : Nat → Nat} {n0 : Nat} {ad0 : Nat → Nat} {own : String} {cc : ByteArray} {nL : Nat} {ret : Option FieldType} {Ts : List Cond} {fr lc B : Nat} {res : sR ρ} {V : sV} (C : sCX enc lo n ad n0 ad0 own cc nL ret Ts fr lc B res V) {b pc : Nat} {lv : List (Nat × Value)} {st : List Value} {m : sM} {σ : Type} {enc' : σ → Option Value} {y' : MethodName} {ws' w' : List Cond} {fr' lc' k9 : Nat} {f' : sM → Option (sR σ)} {mk' : (Nat → Nat) → List Value} {X : σ → sM → Option (sR ρ)} {index nn maxL' : Nat} {cc' : ByteArray} {ret' : Option FieldType} {stk As : List Value} (con : s_Con enc' lo n y' ws' fr' lc' k9 f' mk') (hd : decode cc pc = .ok (.invokestatic index, 3)) (hG : GoodIn Ts (va_wsS own index y' ws')) (hd9 : y'.cls ≠ "java/lang/invoke/MethodHandle" ∧ y'.cls ≠ "java/lang/invoke/VarHandle" ∧ (parseMethodDescriptor y'.desc).map (fun d => d.parameters.length) = some nn) (hmk : mk' ad = As) (hw : ws' = Cond.code y' cc' maxL' ret' :: w') (hR : fr' + 1 ≤ fr ∧ 8 + (maxL' + 11) + lc' ≤ lc) (hnn : As.length = nn) (hsk : stk = As.reverse ++ st) (hcat : (st.map fun v => v.category).sum ≤ 8) (hb1 : k9 ≤ b) (h : s_bd (f' m) X = some res) (k : ∀ r m', X r m' = some res → V (b - k9) (pc + 3) lv ((enc' r).toList ++ st) m') : V b pc lv stk m := by
  obtain ⟨p, l, e, s, mi, args, below, meth, c, dC, dI, dA, A, hx, hb, hml, hown, hts, hr, hlocks, hno, hst, hK, hA1, hpw, hE, rfl⟩ := C
  intro H locs ls cells slots hc hs hP hD hS hl
  subst hsk
  cases hfm : f' m with
  | none => rw [hfm] at h; cases h
  | some res' =>
  have hAA : ∀ q, s_A ad lo n H.size q → A q := fun q hq => hA1 q (s_A.le hS.1 q hq)
  have hcl9 : cells + k9 ≤ B := by omega
  have hsl9 : slots + 6 * k9 ≤ 6 * B := by omega
  have hbl : FrameBlind (s_Pc lo n dC dI dA ad (mk' ad) H.size m) := fun a U g mk q => by
    obtain ⟨q1, q2, q3, q4, q5, q6⟩ := q
    exact ⟨q1, q2, q3, va_K.moved (u := U) (U := U.calling g mk a) (Vm.Alike.refl U.vm) q4, q5, q6.same rfl rfl⟩
  have hpre : ∀ (av : Array Value), av = (mk' ad).toArray → ∀ U : State, U.heap = H → s.WarmedH U.vm → s_Pc lo n dC dI dA ad (mk' ad) H.size m av U := fun av hav U hU hW => ⟨hav, by rw [hU], by rw [hU]; exact hP, va_K.moved hW.alike hK, hD.weaken (fun _ _ _ _ => trivial), s_E.go hW hS hU hAA hE⟩
  have hrun := vx_runS (p := p) (l := l) (e := e) (R := ({ frames := fr, cells := B, slots := 6 * B, locals := lc } : Room)) (below := below) (meth := meth) (locs := locs) (cells := cells) (slots := slots) (As := As) (rest := st) (g := F0 mi pc ls (As.reverse ++ st)) ⟨hx, hb, hml, hown, hts⟩ (con l hst dC dI dA ad H.size m res' hfm) (va_cwS nn hts hG hw rfl rfl hd9 hR) ⟨hbl, fun U hU hW => hpre _ (by rw [hmk]) U hU hW⟩ rfl hnn hl.1 rfl (lv_room hcat) hd ⟨hcl9, hsl9⟩
  intro T hT X9
  rcases hrun T hT X9 with ⟨v, st₀, t, T', L, h0, X', hL, e1, e2, ⟨⟨r, m', hres, hv, hPW, hDW⟩, hF⟩, hgo⟩ | ⟨q, st₀, t, T', L, E, ce, h0, X', hL, e1, e2, ⟨m', hres, ⟨hPW, hDW⟩, hF⟩, hce, hcv, hcl, hgo⟩
  · cases hv
    rw [hfm, hres] at h
    obtain ⟨k1, k2, k3⟩ := vx_keep h0 e1 hS (fun q _ hq => hAA q hq) hAA hL hF
    obtain ⟨t2, a1, b1⟩ := k r m' h T'.heap (locs ++ L) ls (cells + k9) (slots + 6 * k9) (by omega) (by omega) (by rw [e1]; exact hPW) (hDW.weaken (fun _ _ _ h9 => hAA _ h9)) k3 hl T' rfl X'
    exact ⟨t2, hgo t2 a1, b1⟩
  · rw [hfm, hres] at h
    obtain ⟨k1, k2, k3⟩ := vx_keep h0 e1 hS (fun q _ hq => hAA q hq) hAA hL hF
    have hout := vx_out (p := p) (l := l) (e := e) (R := ({ frames := fr, cells := B, slots := 6 * B, locals := lc } : Room)) (s := s) (m := mi) (args := args) (below := below) (meth := meth) (c := c) (H := T'.heap) (locs := locs ++ L) (cells := cells + k9) (slots := slots + 6 * k9) (ls := ls) (rest := st) (Qc := s_Q enc lo n0 dC dI dA ad0 A res) (XC := s_X lo n0 dC dI dA ad0 A res) (pc := pc) (E := E) (ce := ce) (q := q) (mc := B) (ms := 6 * B) (free := A) (fun x hx9 => (hno x hx9).elim) hlocks (by rw [e1]; exact hce) hcv hcl (fun t9 ht9 hW9 => ⟨m', (Option.some.inj h).symm, hpw _ _ _ (by rw [ht9, e1]; exact hPW) (hDW.weaken (fun _ _ _ h9 => hAA _ h9)), k3.F ht9⟩) k3.2.2 (by omega) (by omega)
    obtain ⟨t2, a1, b1⟩ := hout T' rfl X'
    exact ⟨t2, hgo.trans a1, b1⟩
theorem r_callN {ρ : Type} {enc : ρ → Option Value} {lo n : Nat} {ad : Nat → Nat} {n0 : Nat} {ad0 : Nat → Nat} {own : String} {cc : ByteArray} {nL : Nat} {ret : Option FieldType} {Ts : List Cond} {fr lc B : Nat} {res : sR ρ} {V : sV} (C : sCX enc lo n ad n0 ad0 own cc nL ret Ts fr lc B res V) {b pc : Nat} {lv : List (Nat × Value)} {st : List Value} {m : sM} {σ : Type} {enc' : σ → Option Value} {y' : MethodName} {ws' w' : List Cond} {fr' lc' k9 : Nat} {f' : sM → Option (sR σ)} {mk' : (Nat → Nat) → List Value} {X : σ → sM → Option (sR ρ)} {index nn maxL' : Nat} {cc' : ByteArray} {ret' : Option FieldType} {stk As : List Value} {host : String} (con : s_Con enc' lo n y' ws' fr' lc' k9 f' mk') (hd : decode cc pc = .ok (.invokestatic index, 3)) (hG : GoodIn Ts ws') (hnest : (own, index, y', host) ∈ s_nest) (hsta : Cond.static y' ∈ Ts) (hini : Cond.initialized y'.cls ∈ Ts) (hd9 : y'.cls ≠ "java/lang/invoke/MethodHandle" ∧ y'.cls ≠ "java/lang/invoke/VarHandle" ∧ (parseMethodDescriptor y'.desc).map (fun d => d.parameters.length) = some nn) (hmk : mk' ad = As) (hw : ws' = Cond.code y' cc' maxL' ret' :: w') (hR : fr' + 1 ≤ fr ∧ 8 + (maxL' + 11) + lc' ≤ lc) (hnn : As.length = nn) (hsk : stk = As.reverse ++ st) (hcat : (st.map fun v => v.category).sum ≤ 8) (hb1 : k9 ≤ b) (h : s_bd (f' m) X = some res) (k : ∀ r m', X r m' = some res → V (b - k9) (pc + 3) lv ((enc' r).toList ++ st) m') : V b pc lv stk m := by
  obtain ⟨p, l, e, s, mi, args, below, meth, c, dC, dI, dA, A, hx, hb, hml, hown, hts, hr, hlocks, hno, hst, hK, hA1, hpw, hE, rfl⟩ := C
  intro H locs ls cells slots hc hs hP hD hS hl
  subst hsk
  cases hfm : f' m with
  | none => rw [hfm] at h; cases h
  | some res' =>
  have hAA : ∀ q, s_A ad lo n H.size q → A q := fun q hq => hA1 q (s_A.le hS.1 q hq)
  have hcl9 : cells + k9 ≤ B := by omega
  have hsl9 : slots + 6 * k9 ≤ 6 * B := by omega
  have hbl : FrameBlind (s_Pc lo n dC dI dA ad (mk' ad) H.size m) := fun a U g mk q => by
    obtain ⟨q1, q2, q3, q4, q5, q6⟩ := q
    exact ⟨q1, q2, q3, va_K.moved (u := U) (U := U.calling g mk a) (Vm.Alike.refl U.vm) q4, q5, q6.same rfl rfl⟩
  have hpre : ∀ (av : Array Value), av = (mk' ad).toArray → ∀ U : State, U.heap = H → s.WarmedH U.vm → s_Pc lo n dC dI dA ad (mk' ad) H.size m av U := fun av hav U hU hW => ⟨hav, by rw [hU], by rw [hU]; exact hP, va_K.moved hW.alike hK, hD.weaken (fun _ _ _ _ => trivial), s_E.go hW hS hU hAA hE⟩
  have hrun := vx_runSN (p := p) (l := l) (e := e) (R := ({ frames := fr, cells := B, slots := 6 * B, locals := lc } : Room)) (below := below) (meth := meth) (locs := locs) (cells := cells) (slots := slots) (As := As) (rest := st) (g := F0 mi pc ls (As.reverse ++ st)) ⟨hx, hb, hml, hown, hts⟩ (con l hst dC dI dA ad H.size m res' hfm) ⟨va_cnB (host := host) nn hts hG hw rfl rfl (hE.1 _ hnest) (hts _ hini) hd9 hR, hts _ hsta, trivial⟩ ⟨hbl, fun U hU hW => hpre _ (by rw [hmk]) U hU hW⟩ rfl hnn hl.1 rfl (lv_room hcat) hd ⟨hcl9, hsl9⟩
  intro T hT X9
  rcases hrun T hT X9 with ⟨v, st₀, t, T', L, h0, X', hL, e1, e2, ⟨⟨r, m', hres, hv, hPW, hDW⟩, hF⟩, hgo⟩ | ⟨q, st₀, t, T', L, E, ce, h0, X', hL, e1, e2, ⟨m', hres, ⟨hPW, hDW⟩, hF⟩, hce, hcv, hcl, hgo⟩
  · cases hv
    rw [hfm, hres] at h
    obtain ⟨k1, k2, k3⟩ := vx_keep h0 e1 hS (fun q _ hq => hAA q hq) hAA hL hF
    obtain ⟨t2, a1, b1⟩ := k r m' h T'.heap (locs ++ L) ls (cells + k9) (slots + 6 * k9) (by omega) (by omega) (by rw [e1]; exact hPW) (hDW.weaken (fun _ _ _ h9 => hAA _ h9)) k3 hl T' rfl X'
    exact ⟨t2, hgo t2 a1, b1⟩
  · rw [hfm, hres] at h
    obtain ⟨k1, k2, k3⟩ := vx_keep h0 e1 hS (fun q _ hq => hAA q hq) hAA hL hF
    have hout := vx_out (p := p) (l := l) (e := e) (R := ({ frames := fr, cells := B, slots := 6 * B, locals := lc } : Room)) (s := s) (m := mi) (args := args) (below := below) (meth := meth) (c := c) (H := T'.heap) (locs := locs ++ L) (cells := cells + k9) (slots := slots + 6 * k9) (ls := ls) (rest := st) (Qc := s_Q enc lo n0 dC dI dA ad0 A res) (XC := s_X lo n0 dC dI dA ad0 A res) (pc := pc) (E := E) (ce := ce) (q := q) (mc := B) (ms := 6 * B) (free := A) (fun x hx9 => (hno x hx9).elim) hlocks (by rw [e1]; exact hce) hcv hcl (fun t9 ht9 hW9 => ⟨m', (Option.some.inj h).symm, hpw _ _ _ (by rw [ht9, e1]; exact hPW) (hDW.weaken (fun _ _ _ h9 => hAA _ h9)), k3.F ht9⟩) k3.2.2 (by omega) (by omega)
    obtain ⟨t2, a1, b1⟩ := hout T' rfl X'
    exact ⟨t2, hgo.trans a1, b1⟩
theorem r_copy {ρ : Type} {enc : ρ → Option Value} {lo n : Nat} {ad : Nat → Nat} {n0 : Nat} {ad0 : Nat → Nat} {own : String} {cc : ByteArray} {nL : Nat} {ret : Option FieldType} {Ts : List Cond} {fr lc B : Nat} {res : sR ρ} {V : sV} (C : sCX enc lo n ad n0 ad0 own cc nL ret Ts fr lc B res V) {b pc : Nat} {lv : List (Nat × Value)} {st : List Value} {m : sM} {a0 a1 N0 N1 t index : Nat} {ty : FieldType} {sp dp nn : Int32} {X : sM → Option (sR ρ)} (hd : decode cc pc = .ok (.invokestatic index, 3)) (hlk : Cond.methodLink own index arraycopyName ∈ Ts) (hnat : Cond.native arraycopyName ∈ Ts) (hsta : Cond.static arraycopyName ∈ Ts) (hini : Cond.initialized "java/lang/System" ∈ Ts) (ha0 : lo ≤ a0 ∧ a0 < lo + n) (ha1 : lo ≤ a1 ∧ a1 < lo + n) (hL0 : sLay a0 = .inr (t, N0, none)) (hL1 : sLay a1 = .inr (t, N1, none)) (ht7 : ¬ t = 7) (ht : ∀ dA, (s_tys dA)[t]? = some (dA t, ty)) (hprim : refKind ty = false) (hfr : 1 ≤ fr) (hlc : (st.map fun v => v.category).sum + (nativeFrameWords "java/lang/System" "arraycopy" 5 + 11) ≤ lc) (h : s_gd (¬ sp < 0 ∧ ¬ dp < 0 ∧ ¬ nn < 0 ∧ sp.toNatClampNeg + nn.toNatClampNeg ≤ N0 ∧ dp.toNatClampNeg + nn.toNatClampNeg ≤ N1 ∧ ∀ i, i < nn.toNatClampNeg → fits ty (.int (m.1 a0 (sp.toNatClampNeg + i))) = true) (s_md (s_cp m a0 a1 sp.toNatClampNeg dp.toNatClampNeg nn.toNatClampNeg) X) = some res) (k : ∀ m', m' = s_cp m a0 a1 sp.toNatClampNeg dp.toNatClampNeg nn.toNatClampNeg → X m' = some res → V b (pc + 3) lv st m') : V b pc lv (.int nn :: .int dp :: .ref (ad a1) :: .int sp :: .ref (ad a0) :: st) m := by
  obtain ⟨p, l, e, s, mi, args, below, meth, c, dC, dI, dA, A, hx, hb, hml, hown, hts, hr, hlocks, hno, hst, hK, hA1, hpw, hE, rfl⟩ := C
  intro H locs ls cells slots hc hs hP hD hS hl
  obtain ⟨⟨h1, h2, h3, h4, h5, h6⟩, h⟩ := s_gd_of h
  have hn7 : (if t = 7 then (.inr (.inl (m.2 a0)) : (Nat → Int32) ⊕ (Nat → Int64) ⊕ (Nat → UInt32) ⊕ (Nat → UInt64) ⊕ (Nat → Option Nat)) else .inl (m.1 a0)) = .inl (m.1 a0) := if_neg ht7
  have hm7 : (if t = 7 then (.inr (.inl (m.2 a1)) : (Nat → Int32) ⊕ (Nat → Int64) ⊕ (Nat → UInt32) ⊕ (Nat → UInt64) ⊕ (Nat → Option Nat)) else .inl (m.1 a1)) = .inl (m.1 a1) := if_neg ht7
  refine va_copyi (D := (dC, dI)) hx hb (hml.trans hl.1.symm) hown (hts _ hlk) (hts _ hnat) (hts _ hsta) (hts _ hini) hK hP hD hS (a0 - lo) (a1 - lo) t t (c0 := dA t) (c1 := dA t) (n0 := N0) (n1 := N1) (f := m.1 a0) (g := m.1 a1) (by rw [s_at ha0, hL0]; unfold s_ent; dsimp only; rw [hn7]) (by rw [s_at ha1, hL1]; unfold s_ent; dsimp only; rw [hm7]) (ht dA) (ht dA) hprim h1 h2 h3 h4 h5 h6 hfr hlc hd (fun H locs hP hD hS => ?_)
  have e9 : (s_w dA ad lo n m).set (a1 - lo) (ad a1, .inl (dA t, N1, .inl (va_cpy (m.1 a0) (m.1 a1) sp.toNatClampNeg dp.toNatClampNeg nn.toNatClampNeg))) = s_w dA ad lo n (s_cp m a0 a1 sp.toNatClampNeg dp.toNatClampNeg nn.toNatClampNeg) := s_set ha1 (fun b9 h9 => s_cp_ne h9) (fun b9 h9 => rfl) (by rw [hL1]; unfold s_ent; dsimp only; rw [if_neg ht7, s_cp_eq])
  rw [e9] at hP hD
  exact k _ rfl h H locs ls cells slots hc hs hP hD hS hl
theorem r_min {ρ : Type} {enc : ρ → Option Value} {lo n : Nat} {ad : Nat → Nat} {n0 : Nat} {ad0 : Nat → Nat} {own : String} {cc : ByteArray} {nL : Nat} {ret : Option FieldType} {Ts : List Cond} {fr lc B : Nat} {res : sR ρ} {V : sV} (C : sCX enc lo n ad n0 ad0 own cc nL ret Ts fr lc B res V) {b pc : Nat} {lv : List (Nat × Value)} {st : List Value} {m : sM} {index : Nat} {x y : Int32} (hd : decode cc pc = .ok (.invokestatic index, 3)) (hlk : Cond.methodLink own index Lib.Math.min.name ∈ Ts) (hsta : Cond.static Lib.Math.min.name ∈ Ts) (hini : Cond.initialized "java/lang/Math" ∈ Ts) (hcd : Cond.code Lib.Math.min.name Lib.Math.min.code 2 (some .int) ∈ Ts) (hfr : 1 ≤ fr) (hlc : (st.map fun v => v.category).sum + 13 ≤ lc) (k : V b (pc + 3) lv (.int (if y < x then y else x) :: st) m) : V b pc lv (.int y :: .int x :: st) m := by
  obtain ⟨p, l, e, s, mi, args, below, meth, c, dC, dI, dA, A, hx, hb, hml, hown, hts, hr, hlocks, hno, hst, hK, hA1, hpw, hE, rfl⟩ := C
  intro H locs ls cells slots hc hs hP hD hS hl
  exact va_mmin hx hb (hml.trans hl.1.symm) hown (hts _ hlk) (hts _ hsta) (hts _ hini) (hts _ hcd) hfr hlc (by show cells ≤ B; omega) (by show slots ≤ 6 * B; omega) hd (k H locs ls cells slots hc hs hP hD hS hl)
def s_z139 (m : sM) : sM := (fun b => if b = 139 then fun _ => 0 else m.1 b, m.2)
theorem s_no139 : (List.range' 110 29).all (fun a => match sLay a with
  | .inl q => q.2.all fun r => r.2.1 == 0 || (r.2.1 == 1 || r.2.2 != 139)
  | .inr q => q.2.2.isNone) = true := by decide +kernel
theorem s_ent_ad {dA : Nat → ClassId} {ad ad' : Nat → Nat} {m : sM} {a : Nat} (h1 : 110 ≤ a) (h2 : a < 139) (had : ∀ a, a ≠ 139 → ad' a = ad a) : s_ent dA ad' m a (sLay a) = s_ent dA ad m a (sLay a) := by
  have h := List.all_eq_true.mp s_no139 a (List.mem_range'_1.mpr ⟨h1, by omega⟩)
  revert h
  cases sLay a with
  | inl q =>
    intro h
    have h : q.2.all (fun r => r.2.1 == 0 || (r.2.1 == 1 || r.2.2 != 139)) = true := h
    show (.inr (q.1, q.2.map (s_fv ad' m a)) : va_E) = .inr (q.1, q.2.map (s_fv ad m a))
    congr 2
    apply List.map_congr_left
    intro r hr
    have h9 := List.all_eq_true.mp h r hr
    unfold s_fv
    by_cases e0 : r.2.1 = 0
    · rw [if_pos e0, if_pos e0]
    · by_cases e1 : r.2.1 = 1
      · rw [if_neg e0, if_neg e0, if_pos e1, if_pos e1]
      · rw [if_neg e0, if_neg e0, if_neg e1, if_neg e1]
        have e2 : r.2.2 ≠ 139 := fun e2 => by simp [e0, e1, e2] at h9
        rw [had _ e2]
  | inr q =>
    intro h
    obtain ⟨q1, q2, q3⟩ := q
    cases q3 with
    | none => rfl
    | some r => cases h
theorem s_w_30 {dA : Nat → ClassId} {ad ad' : Nat → Nat} {m : sM} (had : ∀ a, a ≠ 139 → ad' a = ad a) : s_w dA ad' 110 30 m = s_w dA ad 110 29 m ++ [(ad' 139, s_ent dA ad' m 139 (sLay 139))] := by
  unfold s_w
  rw [show (30 : Nat) = 29 + 1 from rfl, List.range'_concat, List.map_append]
  congr 1
  apply List.map_congr_left
  intro a ha
  obtain ⟨h1, h2⟩ := List.mem_range'_1.mp ha
  rw [had a (by omega), s_ent_ad h1 (by omega) had]
theorem s_P_pre {D : va_G} {cl : List vw_C} {w1 w2 : va_W} {H : Heap} (h : va_P D cl (w1 ++ w2) H) : va_P D cl w1 H := fun k q hk => h k q (by rw [List.getElem?_append_left (List.getElem?_eq_some_iff.mp hk).1]; exact hk)
theorem s_D_pre {A : Nat → Prop} {w1 w2 : va_W} (h : va_D A (w1 ++ w2)) : va_D A w1 := ⟨fun i j p q hi hj => h.1 i j p q (by rw [List.getElem?_append_left (List.getElem?_eq_some_iff.mp hi).1]; exact hi) (by rw [List.getElem?_append_left (List.getElem?_eq_some_iff.mp hj).1]; exact hj), fun k q hk => h.2 k q (by rw [List.getElem?_append_left (List.getElem?_eq_some_iff.mp hk).1]; exact hk)⟩
theorem r_new8 {ρ : Type} {enc : ρ → Option Value} {ad : Nat → Nat} {n0 : Nat} {ad0 : Nat → Nat} {own : String} {cc : ByteArray} {nL : Nat} {ret : Option FieldType} {Ts : List Cond} {fr lc B : Nat} {res : sR ρ} {V : sV} (C : sCX enc 110 29 ad n0 ad0 own cc nL ret Ts fr lc B res V) {b pc : Nat} {st : List Value} {m : sM} {X : sM → Option (sR ρ)} (lvf : (Nat → Nat) → List (Nat × Value)) (hd : decode cc pc = .ok (.newarray .int, 2)) (harr : Cond.arrayClass .int ∈ Ts) (hb1 : 2 ≤ b) (hlv : ∀ ad' : Nat → Nat, (∀ a, a ≠ 139 → ad' a = ad a) → lvf ad' = lvf ad) (h : s_md (s_z139 m) X = some res) (k : ∀ (ad' : Nat → Nat) (V' : sV), sCX enc 110 30 ad' n0 ad0 own cc nL ret Ts fr lc B res V' → ∀ m', m' = s_z139 m → X m' = some res → V' (b - 2) (pc + 2) (lvf ad') (.ref (ad' 139) :: st) m') : V b pc (lvf ad) (.int 8 :: st) m := by
  obtain ⟨p, l, e, s, mi, args, below, meth, c, dC, dI, dA, A, hx, hb, hml, hown, hts, hr, hlocks, hno, hst, hK, hA1, hpw, hE, rfl⟩ := C
  intro H locs ls cells slots hc hs hP hD hS hl
  refine va_newa (D := (dC, dI)) hx hb (atype := .int) (hts _ harr) rfl hK hP hD hS (fun q hq => hA1 q (Or.inr hq)) (N' := 8) (a0 := (8, .inl (fun _ => 0))) (fun cA => rfl) (by decide) (by decide) (by decide) (by show cells + 1 ≤ B; omega) (by show slots + 8 ≤ 6 * B; omega) hd (fun q cA H1 hK1 hP1 hD1 hS1 => ?_)
  have hcA : cA = dA 0 := by
    have e1 : s.vm.findClass ("[" ++ FieldType.int.toString) = some cA := (hK1.2 8 (cA, .int) rfl).2
    have e2 : s.vm.findClass ("[" ++ FieldType.int.toString) = some (dA 0) := (hK1.2 0 (dA 0, .int) rfl).2
    exact Option.some.inj (e1.symm.trans e2)
  subst hcA
  obtain ⟨ad', hadq, had⟩ : ∃ ad' : Nat → Nat, ad' 139 = q ∧ ∀ a, a ≠ 139 → ad' a = ad a := ⟨fun a => if a = 139 then q else ad a, if_pos rfl, fun a h9 => if_neg h9⟩
  have hAq : A q := hD1.2 29 (q, .inl (dA 0, (8, .inl (fun _ => 0)))) (by rw [List.getElem?_append_right (by rw [s_len]; omega), s_len]; rfl)
  have hz : s_w dA ad' 110 30 (s_z139 m) = s_w dA ad 110 29 m ++ [(q, .inl (dA 0, (8, .inl (fun _ => 0))))] := by
    rw [s_w_30 had, hadq]
    congr 1
  have hA2 : ∀ q', s_A ad' 110 30 s.heap.size q' → A q' := fun q' hq' => by
    rcases hq' with ⟨a, h1, h2, rfl⟩ | hq'
    · by_cases e9 : a = 139
      · rw [e9, hadq]; exact hAq
      · rw [had a e9]; exact hA1 _ (Or.inl ⟨a, h1, by omega, rfl⟩)
    · exact hA1 _ (Or.inr hq')
  refine k ad' _ ⟨p, l, e, s, mi, args, below, meth, c, dC, dI, dA, A, hx, hb, hml, hown, hts, hr, hlocks, hno, hst, hK, hA2, (fun m2 H2 A2 h1 h2 => hpw m2 H2 A2 (by rw [s_w_30 had] at h1; exact s_P_pre h1) (by rw [s_w_30 had] at h2; exact s_D_pre h2)), hE, rfl⟩ _ rfl h H1 locs ls (cells + 1) (slots + 8) (by omega) (by omega) (by rw [hz]; exact hP1) (by rw [hz]; exact hD1) hS1 (by rw [hlv ad' had]; exact hl) |> fun z => ?_
  rw [hadq] at z
  exact z

