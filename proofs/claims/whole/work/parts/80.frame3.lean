/-! CONSTRUCTORS: the world is a list of cells, told in full. -/
abbrev sVK : Type := Nat → Nat → Nat → List (Nat × Value) → List Value → va_W → Prop
def s_KA (h0 : Nat) (e0 : va_E) (sz : Nat) : Nat → Prop := va_A [(h0, e0)] sz
def s_KP (dC : Nat → ClassId) (dI : Nat → Nat → Nat) (dA : Nat → ClassId) (h0 : Nat) (e0 : va_E) (sz : Nat) : Array Value → State → Prop :=
  va_Pc [.ref h0] (fun U => U.heap.size = sz ∧ va_P (dC, dI) vwCl [(h0, e0)] U.heap ∧ va_K (dC, dI) vwCl (s_tys dA) U ∧ va_D (fun _ => True) [(h0, e0)] ∧ s_E (s_KA h0 e0 sz) U)
def s_KQ (dC : Nat → ClassId) (dI : Nat → Nat → Nat) (A : Nat → Prop) (wf : (Nat → Nat) → va_W) : Array Value → State → Outcome → State → Prop :=
  va_Qv (fun _ : Nat → Nat => True) (fun q t => va_P (dC, dI) vwCl (wf q) t.heap ∧ va_D A (wf q)) A
/-- a constructor's contract: from the blank object e0 at h0 to the world wX dA h0 q, the new cells at the addresses q -/
def s_KC (y : MethodName) (ws : List Cond) (fr lc BC BS : Nat) (e0 : va_E) (wX : (Nat → ClassId) → Nat → (Nat → Nat) → va_W) : Prop :=
  ∀ (l : Launch) (_ : l.stackTraces = false) (dC : Nat → ClassId) (dI : Nat → Nat → Nat) (dA : Nat → ClassId) (h0 sz : Nat),
    Met l y ws ({ frames := fr, cells := BC, slots := BS, locals := lc } : Room) (s_KP dC dI dA h0 e0 sz) (s_KQ dC dI (s_KA h0 e0 sz) (wX dA h0)) BC BS (s_KA h0 e0 sz)
def sCK (dA : Nat → ClassId) (wf : (Nat → Nat) → va_W) (own : String) (cc : ByteArray) (nL : Nat) (Ts : List Cond) (fr lc BC BS : Nat) (V : sVK) : Prop :=
  ∃ (p : Program) (l : Launch) (e : Env) (s : State) (mi : MethodId) (args : Array Value) (below : List Frame) (meth : Method) (c : Code) (dC : Nat → ClassId) (dI : Nat → Nat → Nat) (A : Nat → Prop),
    p.tables.exec = Jvm.exec ∧ c.code = cc ∧ c.maxLocals = nL ∧ s.vm.findClass own = some mi.cls ∧ (∀ w ∈ Ts, w.before args s = true) ∧ meth.sig.returnType = none ∧ meth.locks = false ∧ meth.name = "<init>" ∧ l.stackTraces = false ∧
    va_K (dC, dI) vwCl (s_tys dA) s ∧ (∀ q : Nat, s.heap.size ≤ q → A q) ∧ s_E A s ∧
    V = fun bc bs pc lv st ws => ∀ (H : Heap) (locs : List Loc) (ls : Array Slot) (cells slots : Nat), cells + bc ≤ BC → slots + bs ≤ BS → va_P (dC, dI) vwCl ws H → va_D A ws → va_S A s.heap H locs → lv_has ls nL lv →
      W p l e ({ frames := fr, cells := BC, slots := BS, locals := lc } : Room) s mi args below meth c H locs cells slots (MQ below (s_KQ dC dI A wf) args s BC BS A) (F0 mi pc ls st)
theorem s_kc_of {y : MethodName} {ws ws' : List Cond} {fr lc BC BS : Nat} {e0 : va_E} {wX : (Nat → ClassId) → Nat → (Nat → Nat) → va_W} (cc : ByteArray) (nL : Nat) (own : String) (hy : plainName y.cls = true) (hown9 : y.cls = own) (hnm : y.name = "<init>") (hw : ws = Cond.code y cc nL none :: ws') (hn : 1 ≤ nL)
    (body : ∀ (dA : Nat → ClassId) (h0 : Nat) (V : sVK), sCK dA (wX dA h0) own cc nL ws fr lc BC BS V → V BC BS 0 [(0, .ref h0)] [] [(h0, e0)]) : s_KC y ws fr lc BC BS e0 wX := by
  subst hown9
  intro l hst dC dI dA h0 sz
  refine Met.ofW (cc := cc) (maxL := nL) (ret := none) hy hw ?_
  intro p e s mi args below meth c s₁ B hml hv
  obtain ⟨rfl, hsz, hP, hK, hD0, hE⟩ := hv
  subst hsz
  have hl := lv_entry [Value.ref h0] (n := nL) hn
  rw [lg_entry_eq]
  exact body dA h0 _ ⟨p, l, e, s, mi, _, below, meth, c, dC, dI, s_KA h0 e0 s.heap.size, B.exec, B.bytes, hml, findClass_of_methodNamed B.named, atoms_spec (ws := ws) B.pre, B.returns, B.notSynchronized, (name_of_methodNamed B.named B.method).1.trans hnm, hst, hK, fun _ h => Or.inr h, hE, rfl⟩ s.heap [] _ 0 0 (Nat.le_of_eq (Nat.zero_add _)) (Nat.le_of_eq (Nat.zero_add _)) hP hD0.self va_S.rf hl
/-- two classes of arrays of one type are one -/
theorem s_cA {dC : Nat → ClassId} {dI : Nat → Nat → Nat} {dA : Nat → ClassId} {cA : ClassId} {ty : FieldType} {s : State} (h : va_K (dC, dI) vwCl (s_tys dA ++ [(cA, ty)]) s) (t : Nat) (ht : (s_tys dA)[t]? = some (dA t, ty)) : cA = dA t := by
  have e1 := (h.2 8 (cA, ty) rfl).2
  have hlt : t < 8 := (List.getElem?_eq_some_iff.mp ht).1
  have e2 := (h.2 t (dA t, ty) (by rw [List.getElem?_append_left hlt]; exact ht)).2
  cases ty with
  | object C =>
    obtain ⟨_, _, _, _, _, g1⟩ := e1
    obtain ⟨_, _, _, _, _, g2⟩ := e2
    exact Option.some.inj (g1.symm.trans g2)
  | _ => exact Option.some.inj (e1.symm.trans e2)
theorem k_iconst {dA : Nat → ClassId} {wf : (Nat → Nat) → va_W} {own : String} {cc : ByteArray} {nL : Nat} {Ts : List Cond} {fr lc BC BS : Nat} {V : sVK} (C : sCK dA wf own cc nL Ts fr lc BC BS V) {bc bs pc : Nat} {lv : List (Nat × Value)} {st : List Value} {w9 : va_W} {i : Int} {v : Int32} (hd : decode cc pc = .ok (.iconst i, 1)) (hv : Int32.ofInt i = v) (k : V bc bs (pc + 1) lv (.int v :: st) w9) : V bc bs pc lv (st) w9 := by
  obtain ⟨p, l, e, s, mi, args, below, meth, c, dC, dI, A, hx, hb, hml, hown, hts, hr, hlocks, hin9, hst, hK, hA, hE, rfl⟩ := C
  intro H locs ls cells slots hc hs hP hD hS hl
  exact lv_iconst hx hb hd hv (k H locs ls cells slots hc hs hP hD hS hl)
theorem k_bipush {dA : Nat → ClassId} {wf : (Nat → Nat) → va_W} {own : String} {cc : ByteArray} {nL : Nat} {Ts : List Cond} {fr lc BC BS : Nat} {V : sVK} (C : sCK dA wf own cc nL Ts fr lc BC BS V) {bc bs pc : Nat} {lv : List (Nat × Value)} {st : List Value} {w9 : va_W} {i : Int} {v : Int32} (hd : decode cc pc = .ok (.bipush i, 2)) (hv : (Int8.ofInt i).toInt32 = v) (k : V bc bs (pc + 2) lv (.int v :: st) w9) : V bc bs pc lv (st) w9 := by
  obtain ⟨p, l, e, s, mi, args, below, meth, c, dC, dI, A, hx, hb, hml, hown, hts, hr, hlocks, hin9, hst, hK, hA, hE, rfl⟩ := C
  intro H locs ls cells slots hc hs hP hD hS hl
  exact lv_bipush hx hb hd hv (k H locs ls cells slots hc hs hP hD hS hl)
theorem k_sipush {dA : Nat → ClassId} {wf : (Nat → Nat) → va_W} {own : String} {cc : ByteArray} {nL : Nat} {Ts : List Cond} {fr lc BC BS : Nat} {V : sVK} (C : sCK dA wf own cc nL Ts fr lc BC BS V) {bc bs pc : Nat} {lv : List (Nat × Value)} {st : List Value} {w9 : va_W} {i : Int} {v : Int32} (hd : decode cc pc = .ok (.sipush i, 3)) (hv : (Int16.ofInt i).toInt32 = v) (k : V bc bs (pc + 3) lv (.int v :: st) w9) : V bc bs pc lv (st) w9 := by
  obtain ⟨p, l, e, s, mi, args, below, meth, c, dC, dI, A, hx, hb, hml, hown, hts, hr, hlocks, hin9, hst, hK, hA, hE, rfl⟩ := C
  intro H locs ls cells slots hc hs hP hD hS hl
  exact lv_sipush hx hb hd hv (k H locs ls cells slots hc hs hP hD hS hl)
theorem k_lconst {dA : Nat → ClassId} {wf : (Nat → Nat) → va_W} {own : String} {cc : ByteArray} {nL : Nat} {Ts : List Cond} {fr lc BC BS : Nat} {V : sVK} (C : sCK dA wf own cc nL Ts fr lc BC BS V) {bc bs pc : Nat} {lv : List (Nat × Value)} {st : List Value} {w9 : va_W} {i : Fin 2} {v : Int64} (hd : decode cc pc = .ok (.lconst i, 1)) (hv : Int64.ofNat (i : Nat) = v) (k : V bc bs (pc + 1) lv (.long v :: st) w9) : V bc bs pc lv (st) w9 := by
  obtain ⟨p, l, e, s, mi, args, below, meth, c, dC, dI, A, hx, hb, hml, hown, hts, hr, hlocks, hin9, hst, hK, hA, hE, rfl⟩ := C
  intro H locs ls cells slots hc hs hP hD hS hl
  exact lv_lconst hx hb hd hv (k H locs ls cells slots hc hs hP hD hS hl)
theorem k_iload_n {dA : Nat → ClassId} {wf : (Nat → Nat) → va_W} {own : String} {cc : ByteArray} {nL : Nat} {Ts : List Cond} {fr lc BC BS : Nat} {V : sVK} (C : sCK dA wf own cc nL Ts fr lc BC BS V) {bc bs pc : Nat} {lv : List (Nat × Value)} {st : List Value} {w9 : va_W} {q : Fin 4} {i : Nat} {x : Int32} (hd : decode cc pc = .ok (.iload_n q, 1)) (hi : (q : Nat) = i) (kk : Nat) (hv : lv[kk]? = some (i, .int x)) (k : V bc bs (pc + 1) lv (.int x :: st) w9) : V bc bs pc lv st w9 := by
  obtain ⟨p, l, e, s, mi, args, below, meth, c, dC, dI, A, hx, hb, hml, hown, hts, hr, hlocks, hin9, hst, hK, hA, hE, rfl⟩ := C
  intro H locs ls cells slots hc hs hP hD hS hl
  exact lv_iload_n hx hb hd hi (lv_at hl kk hv) (k H locs ls cells slots hc hs hP hD hS hl)
theorem k_iload {dA : Nat → ClassId} {wf : (Nat → Nat) → va_W} {own : String} {cc : ByteArray} {nL : Nat} {Ts : List Cond} {fr lc BC BS : Nat} {V : sVK} (C : sCK dA wf own cc nL Ts fr lc BC BS V) {bc bs pc : Nat} {lv : List (Nat × Value)} {st : List Value} {w9 : va_W} {i : Nat} {x : Int32} (hd : decode cc pc = .ok (.iload i, 2)) (kk : Nat) (hv : lv[kk]? = some (i, .int x)) (k : V bc bs (pc + 2) lv (.int x :: st) w9) : V bc bs pc lv st w9 := by
  obtain ⟨p, l, e, s, mi, args, below, meth, c, dC, dI, A, hx, hb, hml, hown, hts, hr, hlocks, hin9, hst, hK, hA, hE, rfl⟩ := C
  intro H locs ls cells slots hc hs hP hD hS hl
  exact lv_iload hx hb hd (lv_at hl kk hv) (k H locs ls cells slots hc hs hP hD hS hl)
theorem k_aload_n {dA : Nat → ClassId} {wf : (Nat → Nat) → va_W} {own : String} {cc : ByteArray} {nL : Nat} {Ts : List Cond} {fr lc BC BS : Nat} {V : sVK} (C : sCK dA wf own cc nL Ts fr lc BC BS V) {bc bs pc : Nat} {lv : List (Nat × Value)} {st : List Value} {w9 : va_W} {q : Fin 4} {i : Nat} {x : Nat} (hd : decode cc pc = .ok (.aload_n q, 1)) (hi : (q : Nat) = i) (kk : Nat) (hv : lv[kk]? = some (i, .ref x)) (k : V bc bs (pc + 1) lv (.ref x :: st) w9) : V bc bs pc lv st w9 := by
  obtain ⟨p, l, e, s, mi, args, below, meth, c, dC, dI, A, hx, hb, hml, hown, hts, hr, hlocks, hin9, hst, hK, hA, hE, rfl⟩ := C
  intro H locs ls cells slots hc hs hP hD hS hl
  exact lv_aload_n hx hb hd hi (lv_at hl kk hv) (k H locs ls cells slots hc hs hP hD hS hl)
theorem k_istore_n {dA : Nat → ClassId} {wf : (Nat → Nat) → va_W} {own : String} {cc : ByteArray} {nL : Nat} {Ts : List Cond} {fr lc BC BS : Nat} {V : sVK} (C : sCK dA wf own cc nL Ts fr lc BC BS V) {bc bs pc : Nat} {lv : List (Nat × Value)} {st : List Value} {w9 : va_W} {q : Fin 4} {i : Nat} {x : Int32} {lv' : List (Nat × Value)} (hd : decode cc pc = .ok (.istore_n q, 1)) (hi : (q : Nat) = i) (hn : i < nL) (hv : (i, Value.int x) :: lv.filter (fun q => !(q.1 == i) && !(q.1 + 1 == i && q.2.category == 2)) = lv') (k : V bc bs (pc + 1) lv' st w9) : V bc bs pc lv (.int x :: st) w9 := by
  obtain ⟨p, l, e, s, mi, args, below, meth, c, dC, dI, A, hx, hb, hml, hown, hts, hr, hlocks, hin9, hst, hK, hA, hE, rfl⟩ := C
  intro H locs ls cells slots hc hs hP hD hS hl
  exact lv_istore_n hx hb hd hi hl hn hv (fun ls hl => k H locs ls cells slots hc hs hP hD hS hl)
theorem k_iinc {dA : Nat → ClassId} {wf : (Nat → Nat) → va_W} {own : String} {cc : ByteArray} {nL : Nat} {Ts : List Cond} {fr lc BC BS : Nat} {V : sVK} (C : sCK dA wf own cc nL Ts fr lc BC BS V) {bc bs pc : Nat} {lv : List (Nat × Value)} {st : List Value} {w9 : va_W} {i : Nat} {z : Int} {x v : Int32} {lv' : List (Nat × Value)} (hd : decode cc pc = .ok (.iinc i z, 3)) (kk : Nat) (hk : lv[kk]? = some (i, .int x)) (hz : x + Int32.ofInt z = v) (hn : i < nL) (hv : (i, Value.int v) :: lv.filter (fun q => !(q.1 == i) && !(q.1 + 1 == i && q.2.category == 2)) = lv') (k : V bc bs (pc + 3) lv' st w9) : V bc bs pc lv st w9 := by
  obtain ⟨p, l, e, s, mi, args, below, meth, c, dC, dI, A, hx, hb, hml, hown, hts, hr, hlocks, hin9, hst, hK, hA, hE, rfl⟩ := C
  intro H locs ls cells slots hc hs hP hD hS hl
  exact lv_iinc hx hb hd hl hk hz hn hv (fun ls hl => k H locs ls cells slots hc hs hP hD hS hl)
theorem k_dup {dA : Nat → ClassId} {wf : (Nat → Nat) → va_W} {own : String} {cc : ByteArray} {nL : Nat} {Ts : List Cond} {fr lc BC BS : Nat} {V : sVK} (C : sCK dA wf own cc nL Ts fr lc BC BS V) {bc bs pc : Nat} {lv : List (Nat × Value)} {st : List Value} {w9 : va_W} {x : Value} (hd : decode cc pc = .ok (.dup, 1)) (hx1 : x.category = 1) (k : V bc bs (pc + 1) lv (x :: x :: st) w9) : V bc bs pc lv (x :: st) w9 := by
  obtain ⟨p, l, e, s, mi, args, below, meth, c, dC, dI, A, hx, hb, hml, hown, hts, hr, hlocks, hin9, hst, hK, hA, hE, rfl⟩ := C
  intro H locs ls cells slots hc hs hP hD hS hl
  exact lv_dup hx hb hd hx1 (k H locs ls cells slots hc hs hP hD hS hl)
theorem k_pop {dA : Nat → ClassId} {wf : (Nat → Nat) → va_W} {own : String} {cc : ByteArray} {nL : Nat} {Ts : List Cond} {fr lc BC BS : Nat} {V : sVK} (C : sCK dA wf own cc nL Ts fr lc BC BS V) {bc bs pc : Nat} {lv : List (Nat × Value)} {st : List Value} {w9 : va_W} {x : Value} (hd : decode cc pc = .ok (.pop, 1)) (hx1 : x.category = 1) (k : V bc bs (pc + 1) lv (st) w9) : V bc bs pc lv (x :: st) w9 := by
  obtain ⟨p, l, e, s, mi, args, below, meth, c, dC, dI, A, hx, hb, hml, hown, hts, hr, hlocks, hin9, hst, hK, hA, hE, rfl⟩ := C
  intro H locs ls cells slots hc hs hP hD hS hl
  exact lv_pop hx hb hd hx1 (k H locs ls cells slots hc hs hP hD hS hl)
theorem k_goto {dA : Nat → ClassId} {wf : (Nat → Nat) → va_W} {own : String} {cc : ByteArray} {nL : Nat} {Ts : List Cond} {fr lc BC BS : Nat} {V : sVK} (C : sCK dA wf own cc nL Ts fr lc BC BS V) {bc bs pc : Nat} {lv : List (Nat × Value)} {st : List Value} {w9 : va_W} {off : Int} {tgt : Nat} (hd : decode cc pc = .ok (.goto off, 3)) (ht : (pc : Int) + off = (tgt : Int)) (k : V bc bs tgt lv st w9) : V bc bs pc lv st w9 := by
  obtain ⟨p, l, e, s, mi, args, below, meth, c, dC, dI, A, hx, hb, hml, hown, hts, hr, hlocks, hin9, hst, hK, hA, hE, rfl⟩ := C
  intro H locs ls cells slots hc hs hP hD hS hl
  exact lv_goto hx hb hd ht (k H locs ls cells slots hc hs hP hD hS hl)
theorem k_sub {dA : Nat → ClassId} {wf : (Nat → Nat) → va_W} {own : String} {cc : ByteArray} {nL : Nat} {Ts : List Cond} {fr lc BC BS : Nat} {V : sVK} (C : sCK dA wf own cc nL Ts fr lc BC BS V) {bc bs pc : Nat} {lv : List (Nat × Value)} {st : List Value} {w9 : va_W} {lv' : List (Nat × Value)} (ks : List Nat) (hv : lv_pick lv ks = lv') (k : V bc bs pc lv' st w9) : V bc bs pc lv st w9 := by
  obtain ⟨p, l, e, s, mi, args, below, meth, c, dC, dI, A, hx, hb, hml, hown, hts, hr, hlocks, hin9, hst, hK, hA, hE, rfl⟩ := C
  intro H locs ls cells slots hc hs hP hD hS hl
  exact k H locs ls cells slots hc hs hP hD hS (lv_sub hl ks hv)
theorem k_less {dA : Nat → ClassId} {wf : (Nat → Nat) → va_W} {own : String} {cc : ByteArray} {nL : Nat} {Ts : List Cond} {fr lc BC BS : Nat} {V : sVK} (C : sCK dA wf own cc nL Ts fr lc BC BS V) {bc bs pc : Nat} {lv : List (Nat × Value)} {st : List Value} {w9 : va_W} {bc2 bs2 : Nat} (h1 : bc2 ≤ bc) (h2 : bs2 ≤ bs) (k : V bc2 bs2 pc lv st w9) : V bc bs pc lv st w9 := by
  obtain ⟨p, l, e, s, mi, args, below, meth, c, dC, dI, A, hx, hb, hml, hown, hts, hr, hlocks, hin9, hst, hK, hA, hE, rfl⟩ := C
  intro H locs ls cells slots hc hs hP hD hS hl
  exact k H locs ls cells slots (by omega) (by omega) hP hD hS hl
theorem k_icmp_ge {dA : Nat → ClassId} {wf : (Nat → Nat) → va_W} {own : String} {cc : ByteArray} {nL : Nat} {Ts : List Cond} {fr lc BC BS : Nat} {V : sVK} (C : sCK dA wf own cc nL Ts fr lc BC BS V) {bc bs pc : Nat} {lv : List (Nat × Value)} {st : List Value} {w9 : va_W} {x y : Int32} {off : Int} {tgt : Nat} (hd : decode cc pc = .ok (.if_icmp .ge off, 3)) (ht : (pc : Int) + off = (tgt : Int)) (kt : y ≤ x → V bc bs tgt lv st w9) (kf : ¬ y ≤ x → V bc bs (pc + 3) lv st w9) : V bc bs pc lv (.int y :: .int x :: st) w9 := by
  obtain ⟨p, l, e, s, mi, args, below, meth, c, dC, dI, A, hx, hb, hml, hown, hts, hr, hlocks, hin9, hst, hK, hA, hE, rfl⟩ := C
  intro H locs ls cells slots hc hs hP hD hS hl
  exact lv_icmp_ge hx hb hd ht (fun hq => kt hq H locs ls cells slots hc hs hP hD hS hl) (fun hq => kf hq H locs ls cells slots hc hs hP hD hS hl)
theorem k_obj {dA : Nat → ClassId} {wf : (Nat → Nat) → va_W} {own : String} {cc : ByteArray} {nL : Nat} {Ts : List Cond} {fr lc BC BS : Nat} {V : sVK} (C : sCK dA wf own cc nL Ts fr lc BC BS V) {bc bs pc : Nat} {lv : List (Nat × Value)} {st : List Value} {w9 : va_W} {h0 index : Nat} (hd : decode cc pc = .ok (.invokespecial index, 3)) (h1 : Cond.methodLink own index objectInit ∈ Ts) (h2 : Cond.instanceMethod objectInit ∈ Ts) (h3 : Cond.code objectInit ⟨#[0xb1]⟩ 1 none ∈ Ts) (hfr : 1 ≤ fr) (hlc : (st.map fun v => v.category).sum + 12 ≤ lc) (k : V bc bs (pc + 3) lv st w9) : V bc bs pc lv (.ref h0 :: st) w9 := by
  obtain ⟨p, l, e, s, mi, args, below, meth, c, dC, dI, A, hx, hb, hml, hown, hts, hr, hlocks, hin9, hst, hK, hA, hE, rfl⟩ := C
  intro H locs ls cells slots hc hs hP hD hS hl
  exact W.objInit hx hb hown (hts _ h1) (hts _ h2) (hts _ h3) rfl (by rw [hml]; exact hl.1) rfl hd hfr (by show 2 * 0 + _ + 12 ≤ _; omega) (k H locs ls cells slots hc hs hP hD hS hl)
theorem k_new {dA : Nat → ClassId} {wf : (Nat → Nat) → va_W} {own : String} {cc : ByteArray} {nL : Nat} {Ts : List Cond} {fr lc BC BS : Nat} {V : sVK} (C : sCK dA wf own cc nL Ts fr lc BC BS V) {bc bs pc : Nat} {lv : List (Nat × Value)} {st : List Value} {w9 : va_W} {ci N index : Nat} {Cn : String} {T : u_T} {fs : List Value} (hd : decode cc pc = .ok (.new index, 3)) (hc9 : vwCl[ci]? = some (Cn, T, N)) (hin : ∀ w ∈ u_ws Cn T N, w ∈ Ts) (ty : Nat → FieldType) (hty : ∀ k, k < N → parseFieldDescriptor (T k).2.2.1 = some (ty k)) (h1 : Cond.classLink own index Cn ∈ Ts) (h2 : Cond.instantiable Cn N ∈ Ts) (h3 : Cond.initialized Cn ∈ Ts) (hfs : ∀ j, j < N → defaultValue (ty j) = vp_V fs j) (hb1 : 1 ≤ bc) (hb2 : N ≤ bs) (k : ∀ q : Nat, V (bc - 1) (bs - N) (pc + 3) lv (.ref q :: st) (w9 ++ [(q, .inr (ci, fs))])) : V bc bs pc lv st w9 := by
  obtain ⟨p, l, e, s, mi, args, below, meth, c, dC, dI, A, hx, hb, hml, hown, hts, hr, hlocks, hin9, hst, hK, hA, hE, rfl⟩ := C
  intro H locs ls cells slots hc hs hP hD hS hl
  exact va_new (D := (dC, dI)) (ci := ci) (fs := fs) hx hb hts hin ty hty hown (hts _ h1) (hts _ h2) (hts _ h3) hK hP hD hS hA hc9 hfs (by show cells + 1 ≤ BC; omega) (by show slots + N ≤ BS; omega) hd (fun q H hP hD hS => k q H locs ls (cells + 1) (slots + N) (by omega) (by omega) hP hD hS hl)
theorem k_newa {dA : Nat → ClassId} {wf : (Nat → Nat) → va_W} {own : String} {cc : ByteArray} {nL : Nat} {Ts : List Cond} {fr lc BC BS : Nat} {V : sVK} (C : sCK dA wf own cc nL Ts fr lc BC BS V) {bc bs pc : Nat} {lv : List (Nat × Value)} {st : List Value} {w9 : va_W} {atype : ArrayType} {n9 : Int32} {N : Nat} (t : Nat) (ty : FieldType) (a0 : vp_A) (hd : decode cc pc = .ok (.newarray atype, 2)) (hty : newarray.typeOf atype = ty) (harr : Cond.arrayClass ty ∈ Ts) (ht : ∀ dA, (s_tys dA)[t]? = some (dA t, ty)) (ha0 : ∀ cA : ClassId, vp_cell cA a0 = arrV cA N (fun _ => defaultValue ty)) (hn : ¬ n9 < 0) (hN : n9.toNatClampNeg = N) (hby : N * componentBytes ty ≤ 536870912) (hb1 : 1 ≤ bc) (hb2 : N ≤ bs) (k : ∀ q : Nat, V (bc - 1) (bs - N) (pc + 2) lv (.ref q :: st) (w9 ++ [(q, .inl (dA t, a0))])) : V bc bs pc lv (.int n9 :: st) w9 := by
  obtain ⟨p, l, e, s, mi, args, below, meth, c, dC, dI, A, hx, hb, hml, hown, hts, hr, hlocks, hin9, hst, hK, hA, hE, rfl⟩ := C
  intro H locs ls cells slots hc hs hP hD hS hl
  subst hty
  refine va_newa (D := (dC, dI)) hx hb (hts _ harr) rfl hK hP hD hS hA ha0 hn hN hby (by show cells + 1 ≤ BC; omega) (by show slots + N ≤ BS; omega) hd (fun q cA H hK1 hP hD hS => ?_)
  have e9 := s_cA hK1 t (ht dA)
  subst e9
  exact k q H locs ls (cells + 1) (slots + N) (by omega) (by omega) hP hD hS hl
theorem k_anew {dA : Nat → ClassId} {wf : (Nat → Nat) → va_W} {own : String} {cc : ByteArray} {nL : Nat} {Ts : List Cond} {fr lc BC BS : Nat} {V : sVK} (C : sCK dA wf own cc nL Ts fr lc BC BS V) {bc bs pc : Nat} {lv : List (Nat × Value)} {st : List Value} {w9 : va_W} {n9 : Int32} {N index : Nat} (t : Nat) (Cn : String) (hd : decode cc pc = .ok (.anewarray index, 3)) (h1 : Cond.classLink own index Cn ∈ Ts) (hao : ∀ (args : Array Value) (s : State), (∀ w ∈ Ts, w.before args s = true) → va_AO Cn s) (ht : ∀ dA, (s_tys dA)[t]? = some (dA t, .object Cn)) (hn : ¬ n9 < 0) (hN : n9.toNatClampNeg = N) (hby : N * 4 ≤ 536870912) (hb1 : 1 ≤ bc) (hb2 : N ≤ bs) (k : ∀ q : Nat, V (bc - 1) (bs - N) (pc + 3) lv (.ref q :: st) (w9 ++ [(q, .inl (dA t, N, .inr (.inr (.inr (.inr (fun _ => none))))))])) : V bc bs pc lv (.int n9 :: st) w9 := by
  obtain ⟨p, l, e, s, mi, args, below, meth, c, dC, dI, A, hx, hb, hml, hown, hts, hr, hlocks, hin9, hst, hK, hA, hE, rfl⟩ := C
  intro H locs ls cells slots hc hs hP hD hS hl
  refine va_newq (D := (dC, dI)) hx hb hown (hts _ h1) (hao args s hts) hK hP hD hS hA hn hN hby (by show cells + 1 ≤ BC; omega) (by show slots + N ≤ BS; omega) hd (fun q cA H hK1 hP hD hS => ?_)
  have e9 := s_cA hK1 t (ht dA)
  subst e9
  exact k q H locs ls (cells + 1) (slots + N) (by omega) (by omega) hP hD hS hl
theorem k_getr {dA : Nat → ClassId} {wf : (Nat → Nat) → va_W} {own : String} {cc : ByteArray} {nL : Nat} {Ts : List Cond} {fr lc BC BS : Nat} {V : sVK} (C : sCK dA wf own cc nL Ts fr lc BC BS V) {bc bs pc : Nat} {lv : List (Nat × Value)} {st : List Value} {w9 : va_W} {ci k9 N index a v : Nat} {Cn : String} {T : u_T} {fs : List Value} (i9 : Nat) (hd : decode cc pc = .ok (.getfield index, 3)) (hc9 : vwCl[ci]? = some (Cn, T, N)) (hin : ∀ w ∈ u_ws Cn T N, w ∈ Ts) (hk : k9 < N) (hlk : Cond.fieldLink own index (T k9).1 (T k9).2.1 (T k9).2.2.1 ∈ Ts) (he : w9[i9]? = some (a, .inr (ci, fs))) (hv : fs[k9]? = some (.ref v)) (k : V bc bs (pc + 3) lv (.ref v :: st) w9) : V bc bs pc lv (.ref a :: st) w9 := by
  obtain ⟨p, l, e, s, mi, args, below, meth, c, dC, dI, A, hx, hb, hml, hown, hts, hr, hlocks, hin9, hst, hK, hA, hE, rfl⟩ := C
  intro H locs ls cells slots hc hs hP hD hS hl
  exact va_get (D := (dC, dI)) (ci := ci) (v := .ref v) hx hb hts hin hown hK hP i9 he hc9 k9 hk (hts _ hlk) (fun _ h9 => h9) hv hd (k H locs ls cells slots hc hs hP hD hS hl)
theorem k_putf {dA : Nat → ClassId} {wf : (Nat → Nat) → va_W} {own : String} {cc : ByteArray} {nL : Nat} {Ts : List Cond} {fr lc BC BS : Nat} {V : sVK} (C : sCK dA wf own cc nL Ts fr lc BC BS V) {bc bs pc : Nat} {lv : List (Nat × Value)} {st : List Value} {w9 : va_W} {ci k9 N index a : Nat} {Cn : String} {T : u_T} {fs : List Value} {v : Value} {ty : FieldType} {w' : va_W} (i9 : Nat) (hd : decode cc pc = .ok (.putfield index, 3)) (hc9 : vwCl[ci]? = some (Cn, T, N)) (hin : ∀ w ∈ u_ws Cn T N, w ∈ Ts) (ty0 : Nat → FieldType) (hty : ∀ k, k < N → parseFieldDescriptor (T k).2.2.1 = some (ty0 k)) (hnm : ∀ a, a < N → ∀ b, b < N → a ≠ b → (T a).2.1 ≠ (T b).2.1) (hk : k9 < N) (hlk : Cond.fieldLink own index (T k9).1 (T k9).2.1 (T k9).2.2.1 ∈ Ts) (hfin : (T k9).2.2.2 = true) (hdecl : (T k9).1 = own) (hdt : parseFieldDescriptor (T k9).2.2.1 = some ty) (hnw : narrow ty v = v) (hft : fits ty v = true) (he : w9[i9]? = some (a, .inr (ci, fs))) (hl9 : k9 < fs.length) (hw : w9.set i9 (a, .inr (ci, fs.set k9 v)) = w') (k : V bc bs (pc + 3) lv st w') : V bc bs pc lv (v :: .ref a :: st) w9 := by
  obtain ⟨p, l, e, s, mi, args, below, meth, c, dC, dI, A, hx, hb, hml, hown, hts, hr, hlocks, hin9, hst, hK, hA, hE, rfl⟩ := C
  intro H locs ls cells slots hc hs hP hD hS hl
  subst hw
  exact va_putF (D := (dC, dI)) (ci := ci) (v := v) hx hb hts hin ty0 hty hnm hown hK hP hD hS i9 he hc9 k9 hk (hts _ hlk) (fun _ h9 => h9) hfin hin9 hdecl hdt hnw hft hl9 hd (fun H locs hP hD hS => k H locs ls cells slots hc hs hP hD hS hl)
theorem k_put {dA : Nat → ClassId} {wf : (Nat → Nat) → va_W} {own : String} {cc : ByteArray} {nL : Nat} {Ts : List Cond} {fr lc BC BS : Nat} {V : sVK} (C : sCK dA wf own cc nL Ts fr lc BC BS V) {bc bs pc : Nat} {lv : List (Nat × Value)} {st : List Value} {w9 : va_W} {ci k9 N index a : Nat} {Cn : String} {T : u_T} {fs : List Value} {v : Value} {ty : FieldType} {w' : va_W} (i9 : Nat) (hd : decode cc pc = .ok (.putfield index, 3)) (hc9 : vwCl[ci]? = some (Cn, T, N)) (hin : ∀ w ∈ u_ws Cn T N, w ∈ Ts) (ty0 : Nat → FieldType) (hty : ∀ k, k < N → parseFieldDescriptor (T k).2.2.1 = some (ty0 k)) (hnm : ∀ a, a < N → ∀ b, b < N → a ≠ b → (T a).2.1 ≠ (T b).2.1) (hk : k9 < N) (hlk : Cond.fieldLink own index (T k9).1 (T k9).2.1 (T k9).2.2.1 ∈ Ts) (hfin : (T k9).2.2.2 = false) (hdt : parseFieldDescriptor (T k9).2.2.1 = some ty) (hnw : narrow ty v = v) (hft : fits ty v = true) (he : w9[i9]? = some (a, .inr (ci, fs))) (hl9 : k9 < fs.length) (hw : w9.set i9 (a, .inr (ci, fs.set k9 v)) = w') (k : V bc bs (pc + 3) lv st w') : V bc bs pc lv (v :: .ref a :: st) w9 := by
  obtain ⟨p, l, e, s, mi, args, below, meth, c, dC, dI, A, hx, hb, hml, hown, hts, hr, hlocks, hin9, hst, hK, hA, hE, rfl⟩ := C
  intro H locs ls cells slots hc hs hP hD hS hl
  subst hw
  exact va_put (D := (dC, dI)) (ci := ci) (v := v) hx hb hts hin ty0 hty hnm hown hK hP hD hS i9 he hc9 k9 hk (hts _ hlk) (fun _ h9 => h9) hfin hdt hnw hft hl9 hd (fun H locs hP hD hS => k H locs ls cells slots hc hs hP hD hS hl)
theorem k_aast {dA : Nat → ClassId} {wf : (Nat → Nat) → va_W} {own : String} {cc : ByteArray} {nL : Nat} {Ts : List Cond} {fr lc BC BS : Nat} {V : sVK} (C : sCK dA wf own cc nL Ts fr lc BC BS V) {bc bs pc : Nat} {lv : List (Nat × Value)} {st : List Value} {w9 : va_W} {ci a v t N : Nat} {r : vw_C} {vs : List Value} {f : Nat → Option Nat} {i : Int32} {w' : va_W} (i9 j9 : Nat) (hd : decode cc pc = .ok (.aastore, 1)) (ha : w9[i9]? = some (a, .inl (dA t, N, .inr (.inr (.inr (.inr f)))))) (ht : ∀ dA, (s_tys dA)[t]? = some (dA t, .object r.1)) (hv : w9[j9]? = some (v, .inr (ci, vs))) (hc9 : vwCl[ci]? = some r) (hin : vp_in i N) (hw : w9.set i9 (a, .inl (dA t, N, .inr (.inr (.inr (.inr (va_up f i.toNatClampNeg (some v))))))) = w') (k : V bc bs (pc + 1) lv st w') : V bc bs pc lv (.ref v :: .int i :: .ref a :: st) w9 := by
  obtain ⟨p, l, e, s, mi, args, below, meth, c, dC, dI, A, hx, hb, hml, hown, hts, hr, hlocks, hin9, hst, hK, hA, hE, rfl⟩ := C
  intro H locs ls cells slots hc hs hP hD hS hl
  subst hw
  exact va_astq (D := (dC, dI)) hx hb hK hP hD hS i9 t j9 ci ha (ht dA) hv hc9 hin hd (fun H locs hP hD hS => k H locs ls cells slots hc hs hP hD hS hl)
theorem k_vret {dA : Nat → ClassId} {wf : (Nat → Nat) → va_W} {own : String} {cc : ByteArray} {nL : Nat} {Ts : List Cond} {fr lc BC BS : Nat} {V : sVK} (C : sCK dA wf own cc nL Ts fr lc BC BS V) {bc bs pc : Nat} {lv : List (Nat × Value)} {w9 : va_W}  (hd : decode cc pc = .ok (.return_, 1)) (q : Nat → Nat) (hw : wf q = w9) : V bc bs pc lv [] w9 := by
  obtain ⟨p, l, e, s, mi, args, below, meth, c, dC, dI, A, hx, hb, hml, hown, hts, hr, hlocks, hin9, hst, hK, hA, hE, rfl⟩ := C
  intro H locs ls cells slots hc hs hP hD hS hl
  subst hw
  refine W.widen (k := BC) (n := BS) (by omega) (by omega) ?_
  exact W.vret hx hb hr (fun t ht hW => ⟨⟨q, rfl, trivial, by rw [ht]; exact hP, hD⟩, hS.F ht⟩) hS.2.2 hd
theorem k_callN {dA : Nat → ClassId} {wf : (Nat → Nat) → va_W} {own : String} {cc : ByteArray} {nL : Nat} {Ts : List Cond} {fr lc BC BS : Nat} {V : sVK} (C : sCK dA wf own cc nL Ts fr lc BC BS V) {bc bs pc : Nat} {lv : List (Nat × Value)} {st : List Value} {w9 : va_W} {y' : MethodName} {ws' w' : List Cond} {fr' lc' bc' bs' index maxL' h1 : Nat} {cc' : ByteArray} {e0 : va_E} {wX : (Nat → ClassId) → Nat → (Nat → Nat) → va_W} {wr : va_W} {host : String} (isR : List Nat) (i9 : Nat) (con : s_KC y' ws' fr' lc' bc' bs' e0 wX) (hd : decode cc pc = .ok (.invokespecial index, 3)) (hnest : (own, index, y', host) ∈ s_nest) (hG : GoodIn Ts ws') (hini : Cond.initialized y'.cls ∈ Ts) (hinst : Cond.instanceMethod y' ∈ Ts) (hyn : y'.name = "<init>") (hd9 : y'.cls ≠ "java/lang/invoke/MethodHandle" ∧ y'.cls ≠ "java/lang/invoke/VarHandle" ∧ (parseMethodDescriptor y'.desc).map (fun d => d.parameters.length) = some 0) (hw : ws' = Cond.code y' cc' maxL' none :: w') (hR : fr' + 1 ≤ fr ∧ 8 + (maxL' + 11) + lc' ≤ lc) (hcat : (st.map fun v => v.category).sum ≤ 8) (hC9 : [i9].map (fun i => w9[i]?) = [(h1, e0)].map some) (hR9 : isR.map (fun i => w9[i]?) = wr.map some) (hn9 : va_nd isR = true) (hdis : ∀ i ∈ isR, i ∉ [i9]) (hb1 : bc' ≤ bc) (hb2 : bs' ≤ bs) (k : ∀ q : Nat → Nat, V (bc - bc') (bs - bs') (pc + 3) lv st (wr ++ wX dA h1 q)) : V bc bs pc lv (.ref h1 :: st) w9 := by
  obtain ⟨p, l, e, s, mi, args, below, meth, c, dC, dI, A, hx, hb, hml, hown, hts, hr, hlocks, hin9, hst, hK, hA, hE, rfl⟩ := C
  intro H locs ls cells slots hc hs hP hD hS hl
  have hFc := va_free (wc := [(h1, e0)]) hD hS hA [i9] hC9
  have hAA : ∀ q, s_KA h1 e0 H.size q → A q := hFc
  have e1 : [i9].filterMap (fun i => w9[i]?) = [(h1, e0)] := by
    have h9 : w9[i9]? = some (h1, e0) := by simpa using hC9
    simp [h9]
  have hPc := hP.sub (ws' := [(h1, e0)]) [i9] e1
  have hDc := hD.sub (ws' := [(h1, e0)]) [i9] (by decide) e1
  have hrun := va_runIN (host := host) (As := []) (rest := st) (g := F0 mi pc ls (.ref h1 :: st)) ⟨hx, hb, hml, hown, hts⟩ (con l hst dC dI dA h1 H.size) ⟨va_cnB (host := host) 0 hts hG hw rfl rfl (hE.1 _ hnest) (hts _ hini) hd9 hR, hyn, hts _ hinst⟩ ⟨fun a U g mk q => by obtain ⟨q1, q2, q3, q4, q5, q6⟩ := q; exact ⟨q1, q2, q3, va_K.moved (u := U) (U := U.calling g mk a) (Vm.Alike.refl U.vm) q4, q5, q6.same rfl rfl⟩, fun U hU hW => ⟨rfl, by rw [hU], by rw [hU]; exact hPc, va_K.moved hW.alike hK, hDc.weaken (fun _ _ _ _ => trivial), s_E.go hW hS hU hAA hE⟩⟩ rfl rfl hl.1 rfl (lv_room hcat) hd ⟨(by show cells + bc' ≤ BC; omega), (by show slots + bs' ≤ BS; omega)⟩
  refine va_callv hrun hS (fun q _ h => hFc q h) hFc (fun q t H1 locs1 ht hvm _ hB hz1 hk1 hS => ?_)
  obtain ⟨hP1, hD1⟩ := hB
  rw [ht] at hP1
  obtain ⟨hP2, hD2⟩ := va_join (wr := wr) (w1 := wX dA h1 q) hP hD [i9] isR hC9 hR9 hn9 hdis hk1 hFc hP1 hD1
  exact k q H1 locs1 ls (cells + bc') (slots + bs') (by omega) (by omega) hP2 hD2 hS hl
theorem k_callI {dA : Nat → ClassId} {wf : (Nat → Nat) → va_W} {own : String} {cc : ByteArray} {nL : Nat} {Ts : List Cond} {fr lc BC BS : Nat} {V : sVK} (C : sCK dA wf own cc nL Ts fr lc BC BS V) {bc bs pc : Nat} {lv : List (Nat × Value)} {st : List Value} {w9 : va_W} {y' : MethodName} {ws' w' : List Cond} {fr' lc' bc' bs' index maxL' h1 : Nat} {cc' : ByteArray} {e0 : va_E} {wX : (Nat → ClassId) → Nat → (Nat → Nat) → va_W} {wr : va_W} {host : String} (isR : List Nat) (i9 : Nat) (con : s_KC y' ws' fr' lc' bc' bs' e0 wX) (hd : decode cc pc = .ok (.invokespecial index, 3)) (hG : GoodIn Ts ws') (hini : Cond.initialized y'.cls ∈ Ts) (hlk : Cond.methodLink own index y' ∈ Ts) (hinst : Cond.instanceMethod y' ∈ Ts) (hyn : y'.name = "<init>") (hd9 : y'.cls ≠ "java/lang/invoke/MethodHandle" ∧ y'.cls ≠ "java/lang/invoke/VarHandle" ∧ (parseMethodDescriptor y'.desc).map (fun d => d.parameters.length) = some 0) (hw : ws' = Cond.code y' cc' maxL' none :: w') (hR : fr' + 1 ≤ fr ∧ 8 + (maxL' + 11) + lc' ≤ lc) (hcat : (st.map fun v => v.category).sum ≤ 8) (hC9 : [i9].map (fun i => w9[i]?) = [(h1, e0)].map some) (hR9 : isR.map (fun i => w9[i]?) = wr.map some) (hn9 : va_nd isR = true) (hdis : ∀ i ∈ isR, i ∉ [i9]) (hb1 : bc' ≤ bc) (hb2 : bs' ≤ bs) (k : ∀ q : Nat → Nat, V (bc - bc') (bs - bs') (pc + 3) lv st (wr ++ wX dA h1 q)) : V bc bs pc lv (.ref h1 :: st) w9 := by
  obtain ⟨p, l, e, s, mi, args, below, meth, c, dC, dI, A, hx, hb, hml, hown, hts, hr, hlocks, hin9, hst, hK, hA, hE, rfl⟩ := C
  intro H locs ls cells slots hc hs hP hD hS hl
  have hFc := va_free (wc := [(h1, e0)]) hD hS hA [i9] hC9
  have hAA : ∀ q, s_KA h1 e0 H.size q → A q := hFc
  have e1 : [i9].filterMap (fun i => w9[i]?) = [(h1, e0)] := by
    have h9 : w9[i9]? = some (h1, e0) := by simpa using hC9
    simp [h9]
  have hPc := hP.sub (ws' := [(h1, e0)]) [i9] e1
  have hDc := hD.sub (ws' := [(h1, e0)]) [i9] (by decide) e1
  have hrun := va_runI (As := []) (rest := st) (g := F0 mi pc ls (.ref h1 :: st)) ⟨hx, hb, hml, hown, hts⟩ (con l hst dC dI dA h1 H.size) (cwI 0 hts hG hw rfl rfl (hts _ hini) (hts _ hlk) (hts _ hinst) hyn hd9 hR) ⟨fun a U g mk q => by obtain ⟨q1, q2, q3, q4, q5, q6⟩ := q; exact ⟨q1, q2, q3, va_K.moved (u := U) (U := U.calling g mk a) (Vm.Alike.refl U.vm) q4, q5, q6.same rfl rfl⟩, fun U hU hW => ⟨rfl, by rw [hU], by rw [hU]; exact hPc, va_K.moved hW.alike hK, hDc.weaken (fun _ _ _ _ => trivial), s_E.go hW hS hU hAA hE⟩⟩ rfl rfl hl.1 rfl (lv_room hcat) hd ⟨(by show cells + bc' ≤ BC; omega), (by show slots + bs' ≤ BS; omega)⟩
  refine va_callv hrun hS (fun q _ h => hFc q h) hFc (fun q t H1 locs1 ht hvm _ hB hz1 hk1 hS => ?_)
  obtain ⟨hP1, hD1⟩ := hB
  rw [ht] at hP1
  obtain ⟨hP2, hD2⟩ := va_join (wr := wr) (w1 := wX dA h1 q) hP hD [i9] isR hC9 hR9 hn9 hdis hk1 hFc hP1 hD1
  exact k q H1 locs1 ls (cells + bc') (slots + bs') (by omega) (by omega) hP2 hD2 hS hl
