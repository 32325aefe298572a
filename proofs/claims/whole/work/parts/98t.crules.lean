/-! CONSTRUCTORS: the rules of their walks. -/
-- remark: a walk: cells and slots made so far, pc, locals, stack, world
abbrev nTy : Type := Nat → Nat → Nat → List (Nat × Value) → List Value → va_W → Prop
def nCX (own : String) (cc : ByteArray) (nL : Nat) (Ts : List Cond) (R : Room) (dA : Nat → ClassId) (I : Bool) (Post : va_W → Prop) (V : nTy) : Prop :=
  ∃ (p : Program) (l : Launch) (e : Env) (s : State) (mi : MethodId) (args : Array Value) (below : List Frame) (meth : Method) (c : Code) (Q : State → Prop) (dC : Nat → ClassId) (dI : Nat → Nat → Nat) (A : Nat → Prop),
    p.tables.exec = Jvm.exec ∧ c.code = cc ∧ c.maxLocals = nL ∧ s.vm.findClass own = some mi.cls ∧ (∀ w ∈ Ts, w.before args s = true) ∧ l.stackTraces = false ∧ va_K (dC, dI) vwCl (s_tys dA) s ∧ (∀ q, s.heap.size ≤ q → A q) ∧ s_E A s ∧ n_E s ∧ (I = true → meth.name = "<init>") ∧
    (∀ (w : va_W) (H : Heap) (locs : List Loc) (ls : Array Slot) (pc : Nat), decode cc pc = .ok (.return_, 1) → Post w → va_P (dC, dI) vwCl w H → va_D A w → va_S A s.heap H locs → W p l e R s mi args below meth c H locs R.cells R.slots Q (F0 mi pc ls [])) ∧
    V = fun cells slots pc lv st w => ∀ (H : Heap) (locs : List Loc) (ls : Array Slot), va_P (dC, dI) vwCl w H → va_D A w → va_S A s.heap H locs → lv_has ls nL lv → W p l e R s mi args below meth c H locs cells slots Q (F0 mi pc ls st)
-- remark: a constructor's contract: from an object with no field written, the world it leaves
def n_Con (y : MethodName) (ws : List Cond) (fr lc mc ms : Nat) (e0 : va_E) (Post : (Nat → ClassId) → Nat → va_W → Prop) : Prop :=
  ∀ (l : Launch) (_ : l.stackTraces = false) (dC : Nat → ClassId) (dI : Nat → Nat → Nat) (dA : Nat → ClassId) (h0 sz : Nat),
    Met l y ws ({ frames := fr, cells := mc, slots := ms, locals := lc } : Room) (va_Pc [.ref h0] (fun U => U.heap.size = sz ∧ va_P (dC, dI) vwCl [(h0, e0)] U.heap ∧ va_K (dC, dI) vwCl (s_tys dA) U ∧ va_D (fun _ => True) [(h0, e0)] ∧ s_E (va_A [(h0, e0)] sz) U ∧ n_E U))
      (va_Qv (Post dA h0) (fun w t => va_P (dC, dI) vwCl w t.heap ∧ va_D (va_A [(h0, e0)] sz) w) (va_A [(h0, e0)] sz)) mc ms (va_A [(h0, e0)] sz)
set_option maxRecDepth 100000 in
set_option maxHeartbeats 1000000 in
theorem n_con_of {y : MethodName} {ws ws' : List Cond} {fr lc mc ms : Nat} {e0 : va_E} {Post : (Nat → ClassId) → Nat → va_W → Prop} (cc : ByteArray) (nL : Nat) (own : String) (hy : plainName y.cls = true) (hown9 : y.cls = own) (hname : y.name = "<init>") (hn : 1 ≤ nL) (hw : ws = Cond.code y cc nL none :: ws')
    (body : ∀ (dA : Nat → ClassId) (h0 : Nat) (V : nTy), nCX own cc nL ws ({ frames := fr, cells := mc, slots := ms, locals := lc } : Room) dA true (Post dA h0) V → V 0 0 0 [(0, .ref h0)] [] [(h0, e0)]) : n_Con y ws fr lc mc ms e0 Post := by
  subst hown9
  intro l hst dC dI dA h0 sz
  refine Met.ofW (cc := cc) (maxL := nL) (ret := none) hy hw ?_
  intro p e s mi args below meth c s₁ B hml hv
  obtain ⟨rfl, hsz, hP, hK, hD0, hE, hN⟩ := hv
  subst hsz
  have hr := B.returns
  have hlocks := B.notSynchronized
  have hin : meth.name = "<init>" := ((name_of_methodNamed B.named B.method).1).trans hname
  have hD := hD0.self (sz := s.heap.size)
  have hl := lv_entry ([.ref h0]) (n := nL) (by show 1 ≤ nL; exact hn)
  rw [lg_entry_eq]
  exact body dA h0 _ ⟨p, l, e, s, mi, _, below, meth, c, _, dC, dI, va_A [(h0, e0)] s.heap.size, B.exec, B.bytes, hml, findClass_of_methodNamed B.named, atoms_spec (ws := ws) B.pre, hst, hK, fun q h => Or.inr h, hE, hN, fun _ => hin,
    fun w H locs ls pc hd hp hP hD hS => W.vret B.exec B.bytes hr (fun t ht hW => ⟨⟨w, rfl, hp, by rw [ht]; exact hP, hD⟩, hS.F ht⟩) hS.2.2 hd, rfl⟩ s.heap [] _ hP hD va_S.rf hl
set_option maxRecDepth 100000 in
set_option maxHeartbeats 1000000 in
theorem n_aload {own : String} {cc : ByteArray} {nL : Nat} {Ts : List Cond} {R : Room} {dA : Nat → ClassId} {I : Bool} {Post : va_W → Prop} {V : nTy} (C : nCX own cc nL Ts R dA I Post V) {cells slots pc : Nat} {lv : List (Nat × Value)} {st : List Value} {w : va_W} {q : Fin 4} {i x : Nat} (hd : decode cc pc = .ok (.aload_n q, 1)) (hi : (q : Nat) = i) (kk : Nat) (hv : lv[kk]? = some (i, .ref x)) (k : V cells slots (pc + 1) lv (.ref x :: st) w) : V cells slots pc lv st w := by
  obtain ⟨p, l, e, s, mi, args, below, meth, c, Q, dC, dI, A, hx, hb, hml, hown, hts, hst, hK, hA, hE, hNE, hin, hret, rfl⟩ := C
  intro H locs ls hP hD hS hl
  exact lv_aload_n hx hb hd hi (lv_at hl kk hv) (k H locs ls hP hD hS hl)
set_option maxRecDepth 100000 in
set_option maxHeartbeats 1000000 in
theorem n_iload {own : String} {cc : ByteArray} {nL : Nat} {Ts : List Cond} {R : Room} {dA : Nat → ClassId} {I : Bool} {Post : va_W → Prop} {V : nTy} (C : nCX own cc nL Ts R dA I Post V) {cells slots pc : Nat} {lv : List (Nat × Value)} {st : List Value} {w : va_W} {q : Fin 4} {i : Nat} {x : Int32} (hd : decode cc pc = .ok (.iload_n q, 1)) (hi : (q : Nat) = i) (kk : Nat) (hv : lv[kk]? = some (i, .int x)) (k : V cells slots (pc + 1) lv (.int x :: st) w) : V cells slots pc lv st w := by
  obtain ⟨p, l, e, s, mi, args, below, meth, c, Q, dC, dI, A, hx, hb, hml, hown, hts, hst, hK, hA, hE, hNE, hin, hret, rfl⟩ := C
  intro H locs ls hP hD hS hl
  exact lv_iload_n hx hb hd hi (lv_at hl kk hv) (k H locs ls hP hD hS hl)
set_option maxRecDepth 100000 in
set_option maxHeartbeats 1000000 in
theorem n_iconst {own : String} {cc : ByteArray} {nL : Nat} {Ts : List Cond} {R : Room} {dA : Nat → ClassId} {I : Bool} {Post : va_W → Prop} {V : nTy} (C : nCX own cc nL Ts R dA I Post V) {cells slots pc : Nat} {lv : List (Nat × Value)} {st : List Value} {w : va_W} {i : Int} {v : Int32} (hd : decode cc pc = .ok (.iconst i, 1)) (hv : Int32.ofInt i = v) (k : V cells slots (pc + 1) lv (.int v :: st) w) : V cells slots pc lv st w := by
  obtain ⟨p, l, e, s, mi, args, below, meth, c, Q, dC, dI, A, hx, hb, hml, hown, hts, hst, hK, hA, hE, hNE, hin, hret, rfl⟩ := C
  intro H locs ls hP hD hS hl
  exact lv_iconst hx hb hd hv (k H locs ls hP hD hS hl)
set_option maxRecDepth 100000 in
set_option maxHeartbeats 1000000 in
theorem n_bipush {own : String} {cc : ByteArray} {nL : Nat} {Ts : List Cond} {R : Room} {dA : Nat → ClassId} {I : Bool} {Post : va_W → Prop} {V : nTy} (C : nCX own cc nL Ts R dA I Post V) {cells slots pc : Nat} {lv : List (Nat × Value)} {st : List Value} {w : va_W} {i : Int} {v : Int32} (hd : decode cc pc = .ok (.bipush i, 2)) (hv : (Int8.ofInt i).toInt32 = v) (k : V cells slots (pc + 2) lv (.int v :: st) w) : V cells slots pc lv st w := by
  obtain ⟨p, l, e, s, mi, args, below, meth, c, Q, dC, dI, A, hx, hb, hml, hown, hts, hst, hK, hA, hE, hNE, hin, hret, rfl⟩ := C
  intro H locs ls hP hD hS hl
  exact lv_bipush hx hb hd hv (k H locs ls hP hD hS hl)
set_option maxRecDepth 100000 in
set_option maxHeartbeats 1000000 in
theorem n_sipush {own : String} {cc : ByteArray} {nL : Nat} {Ts : List Cond} {R : Room} {dA : Nat → ClassId} {I : Bool} {Post : va_W → Prop} {V : nTy} (C : nCX own cc nL Ts R dA I Post V) {cells slots pc : Nat} {lv : List (Nat × Value)} {st : List Value} {w : va_W} {i : Int} {v : Int32} (hd : decode cc pc = .ok (.sipush i, 3)) (hv : (Int16.ofInt i).toInt32 = v) (k : V cells slots (pc + 3) lv (.int v :: st) w) : V cells slots pc lv st w := by
  obtain ⟨p, l, e, s, mi, args, below, meth, c, Q, dC, dI, A, hx, hb, hml, hown, hts, hst, hK, hA, hE, hNE, hin, hret, rfl⟩ := C
  intro H locs ls hP hD hS hl
  exact lv_sipush hx hb hd hv (k H locs ls hP hD hS hl)
set_option maxRecDepth 100000 in
set_option maxHeartbeats 1000000 in
theorem n_lconst {own : String} {cc : ByteArray} {nL : Nat} {Ts : List Cond} {R : Room} {dA : Nat → ClassId} {I : Bool} {Post : va_W → Prop} {V : nTy} (C : nCX own cc nL Ts R dA I Post V) {cells slots pc : Nat} {lv : List (Nat × Value)} {st : List Value} {w : va_W} {i : Fin 2} {v : Int64} (hd : decode cc pc = .ok (.lconst i, 1)) (hv : Int64.ofNat (i : Nat) = v) (k : V cells slots (pc + 1) lv (.long v :: st) w) : V cells slots pc lv st w := by
  obtain ⟨p, l, e, s, mi, args, below, meth, c, Q, dC, dI, A, hx, hb, hml, hown, hts, hst, hK, hA, hE, hNE, hin, hret, rfl⟩ := C
  intro H locs ls hP hD hS hl
  exact lv_lconst hx hb hd hv (k H locs ls hP hD hS hl)
set_option maxRecDepth 100000 in
set_option maxHeartbeats 1000000 in
theorem n_dup {own : String} {cc : ByteArray} {nL : Nat} {Ts : List Cond} {R : Room} {dA : Nat → ClassId} {I : Bool} {Post : va_W → Prop} {V : nTy} (C : nCX own cc nL Ts R dA I Post V) {cells slots pc : Nat} {lv : List (Nat × Value)} {st : List Value} {w : va_W} {x : Nat} (hd : decode cc pc = .ok (.dup, 1)) (k : V cells slots (pc + 1) lv (.ref x :: .ref x :: st) w) : V cells slots pc lv (.ref x :: st) w := by
  obtain ⟨p, l, e, s, mi, args, below, meth, c, Q, dC, dI, A, hx, hb, hml, hown, hts, hst, hK, hA, hE, hNE, hin, hret, rfl⟩ := C
  intro H locs ls hP hD hS hl
  exact lv_dup hx hb hd rfl (k H locs ls hP hD hS hl)
set_option maxRecDepth 100000 in
set_option maxHeartbeats 1000000 in
theorem n_pop {own : String} {cc : ByteArray} {nL : Nat} {Ts : List Cond} {R : Room} {dA : Nat → ClassId} {I : Bool} {Post : va_W → Prop} {V : nTy} (C : nCX own cc nL Ts R dA I Post V) {cells slots pc : Nat} {lv : List (Nat × Value)} {st : List Value} {w : va_W} {x : Int32} (hd : decode cc pc = .ok (.pop, 1)) (k : V cells slots (pc + 1) lv st w) : V cells slots pc lv (.int x :: st) w := by
  obtain ⟨p, l, e, s, mi, args, below, meth, c, Q, dC, dI, A, hx, hb, hml, hown, hts, hst, hK, hA, hE, hNE, hin, hret, rfl⟩ := C
  intro H locs ls hP hD hS hl
  exact lv_pop hx hb hd rfl (k H locs ls hP hD hS hl)
set_option maxRecDepth 100000 in
set_option maxHeartbeats 1000000 in
theorem n_istore {own : String} {cc : ByteArray} {nL : Nat} {Ts : List Cond} {R : Room} {dA : Nat → ClassId} {I : Bool} {Post : va_W → Prop} {V : nTy} (C : nCX own cc nL Ts R dA I Post V) {cells slots pc : Nat} {lv : List (Nat × Value)} {st : List Value} {w : va_W} {q : Fin 4} {i : Nat} {x : Int32} {lv' : List (Nat × Value)} (hd : decode cc pc = .ok (.istore_n q, 1)) (hi : (q : Nat) = i) (hn : i < nL) (hv : (i, Value.int x) :: lv.filter (fun q => !(q.1 == i) && !(q.1 + 1 == i && q.2.category == 2)) = lv') (k : V cells slots (pc + 1) lv' st w) : V cells slots pc lv (.int x :: st) w := by
  obtain ⟨p, l, e, s, mi, args, below, meth, c, Q, dC, dI, A, hx, hb, hml, hown, hts, hst, hK, hA, hE, hNE, hin, hret, rfl⟩ := C
  intro H locs ls hP hD hS hl
  exact lv_istore_n hx hb hd hi hl hn hv (fun ls hl => k H locs ls hP hD hS hl)
set_option maxRecDepth 100000 in
set_option maxHeartbeats 1000000 in
theorem n_astore {own : String} {cc : ByteArray} {nL : Nat} {Ts : List Cond} {R : Room} {dA : Nat → ClassId} {I : Bool} {Post : va_W → Prop} {V : nTy} (C : nCX own cc nL Ts R dA I Post V) {cells slots pc : Nat} {lv : List (Nat × Value)} {st : List Value} {w : va_W} {q : Fin 4} {i : Nat} {x : Nat} {lv' : List (Nat × Value)} (hd : decode cc pc = .ok (.astore_n q, 1)) (hi : (q : Nat) = i) (hn : i < nL) (hv : (i, Value.ref x) :: lv.filter (fun q => !(q.1 == i) && !(q.1 + 1 == i && q.2.category == 2)) = lv') (k : V cells slots (pc + 1) lv' st w) : V cells slots pc lv (.ref x :: st) w := by
  obtain ⟨p, l, e, s, mi, args, below, meth, c, Q, dC, dI, A, hx, hb, hml, hown, hts, hst, hK, hA, hE, hNE, hin, hret, rfl⟩ := C
  intro H locs ls hP hD hS hl
  exact lv_astore_n hx hb hd hi hl hn hv (fun ls hl => k H locs ls hP hD hS hl)
set_option maxRecDepth 100000 in
set_option maxHeartbeats 1000000 in
theorem n_istore4 {own : String} {cc : ByteArray} {nL : Nat} {Ts : List Cond} {R : Room} {dA : Nat → ClassId} {I : Bool} {Post : va_W → Prop} {V : nTy} (C : nCX own cc nL Ts R dA I Post V) {cells slots pc : Nat} {lv : List (Nat × Value)} {st : List Value} {w : va_W} {i : Nat} {x : Int32} {lv' : List (Nat × Value)} (hd : decode cc pc = .ok (.istore i, 2)) (hn : i < nL) (hv : (i, Value.int x) :: lv.filter (fun q => !(q.1 == i) && !(q.1 + 1 == i && q.2.category == 2)) = lv') (k : V cells slots (pc + 2) lv' st w) : V cells slots pc lv (.int x :: st) w := by
  obtain ⟨p, l, e, s, mi, args, below, meth, c, Q, dC, dI, A, hx, hb, hml, hown, hts, hst, hK, hA, hE, hNE, hin, hret, rfl⟩ := C
  intro H locs ls hP hD hS hl
  exact lv_istore hx hb hd hl hn hv (fun ls hl => k H locs ls hP hD hS hl)
set_option maxRecDepth 100000 in
set_option maxHeartbeats 1000000 in
theorem n_iinc {own : String} {cc : ByteArray} {nL : Nat} {Ts : List Cond} {R : Room} {dA : Nat → ClassId} {I : Bool} {Post : va_W → Prop} {V : nTy} (C : nCX own cc nL Ts R dA I Post V) {cells slots pc : Nat} {lv : List (Nat × Value)} {st : List Value} {w : va_W} {i : Nat} {z : Int} {x v : Int32} {lv' : List (Nat × Value)} (hd : decode cc pc = .ok (.iinc i z, 3)) (kk : Nat) (hk : lv[kk]? = some (i, .int x)) (hz : x + Int32.ofInt z = v) (hn : i < nL) (hv : (i, Value.int v) :: lv.filter (fun q => !(q.1 == i) && !(q.1 + 1 == i && q.2.category == 2)) = lv') (k : V cells slots (pc + 3) lv' st w) : V cells slots pc lv st w := by
  obtain ⟨p, l, e, s, mi, args, below, meth, c, Q, dC, dI, A, hx, hb, hml, hown, hts, hst, hK, hA, hE, hNE, hin, hret, rfl⟩ := C
  intro H locs ls hP hD hS hl
  exact lv_iinc hx hb hd hl hk hz hn hv (fun ls hl => k H locs ls hP hD hS hl)
set_option maxRecDepth 100000 in
set_option maxHeartbeats 1000000 in
theorem n_goto {own : String} {cc : ByteArray} {nL : Nat} {Ts : List Cond} {R : Room} {dA : Nat → ClassId} {I : Bool} {Post : va_W → Prop} {V : nTy} (C : nCX own cc nL Ts R dA I Post V) {cells slots pc : Nat} {lv : List (Nat × Value)} {st : List Value} {w : va_W} {off : Int} {tgt : Nat} (hd : decode cc pc = .ok (.goto off, 3)) (ht : (pc : Int) + off = (tgt : Int)) (k : V cells slots tgt lv st w) : V cells slots pc lv st w := by
  obtain ⟨p, l, e, s, mi, args, below, meth, c, Q, dC, dI, A, hx, hb, hml, hown, hts, hst, hK, hA, hE, hNE, hin, hret, rfl⟩ := C
  intro H locs ls hP hD hS hl
  exact lv_goto hx hb hd ht (k H locs ls hP hD hS hl)
set_option maxRecDepth 100000 in
set_option maxHeartbeats 1000000 in
theorem n_geT {own : String} {cc : ByteArray} {nL : Nat} {Ts : List Cond} {R : Room} {dA : Nat → ClassId} {I : Bool} {Post : va_W → Prop} {V : nTy} (C : nCX own cc nL Ts R dA I Post V) {cells slots pc : Nat} {lv : List (Nat × Value)} {st : List Value} {w : va_W} {x y : Int32} {off : Int} {tgt : Nat} (hd : decode cc pc = .ok (.if_icmp .ge off, 3)) (ht : (pc : Int) + off = (tgt : Int)) (hc : y ≤ x) (k : V cells slots tgt lv st w) : V cells slots pc lv (.int y :: .int x :: st) w := by
  obtain ⟨p, l, e, s, mi, args, below, meth, c, Q, dC, dI, A, hx, hb, hml, hown, hts, hst, hK, hA, hE, hNE, hin, hret, rfl⟩ := C
  intro H locs ls hP hD hS hl
  exact lv_icmp_ge hx hb hd ht (fun _ => k H locs ls hP hD hS hl) (fun h => absurd hc h)
set_option maxRecDepth 100000 in
set_option maxHeartbeats 1000000 in
theorem n_geF {own : String} {cc : ByteArray} {nL : Nat} {Ts : List Cond} {R : Room} {dA : Nat → ClassId} {I : Bool} {Post : va_W → Prop} {V : nTy} (C : nCX own cc nL Ts R dA I Post V) {cells slots pc : Nat} {lv : List (Nat × Value)} {st : List Value} {w : va_W} {x y : Int32} {off : Int} {tgt : Nat} (hd : decode cc pc = .ok (.if_icmp .ge off, 3)) (ht : (pc : Int) + off = (tgt : Int)) (hc : ¬ y ≤ x) (k : V cells slots (pc + 3) lv st w) : V cells slots pc lv (.int y :: .int x :: st) w := by
  obtain ⟨p, l, e, s, mi, args, below, meth, c, Q, dC, dI, A, hx, hb, hml, hown, hts, hst, hK, hA, hE, hNE, hin, hret, rfl⟩ := C
  intro H locs ls hP hD hS hl
  exact lv_icmp_ge hx hb hd ht (fun h => absurd h hc) (fun _ => k H locs ls hP hD hS hl)
set_option maxRecDepth 100000 in
set_option maxHeartbeats 1000000 in
theorem n_perm {own : String} {cc : ByteArray} {nL : Nat} {Ts : List Cond} {R : Room} {dA : Nat → ClassId} {I : Bool} {Post : va_W → Prop} {V : nTy} (C : nCX own cc nL Ts R dA I Post V) {cells slots pc : Nat} {lv : List (Nat × Value)} {st : List Value} {w : va_W} (w2 : va_W) (hp : w.Perm w2) (k : V cells slots pc lv st w2) : V cells slots pc lv st w := by
  obtain ⟨p, l, e, s, mi, args, below, meth, c, Q, dC, dI, A, hx, hb, hml, hown, hts, hst, hK, hA, hE, hNE, hin, hret, rfl⟩ := C
  intro H locs ls hP hD hS hl
  exact k H locs ls (n_P_perm hp hP) (n_D_perm hp hD) hS hl
set_option maxRecDepth 100000 in
set_option maxHeartbeats 1000000 in
theorem n_obj {own : String} {cc : ByteArray} {nL : Nat} {Ts : List Cond} {R : Room} {dA : Nat → ClassId} {I : Bool} {Post : va_W → Prop} {V : nTy} (C : nCX own cc nL Ts R dA I Post V) {cells slots pc : Nat} {lv : List (Nat × Value)} {st : List Value} {w : va_W} {a idx : Nat} (hlk : Cond.methodLink own idx objectInit ∈ Ts) (hi : Cond.instanceMethod objectInit ∈ Ts) (hc : Cond.code objectInit ⟨#[0xb1]⟩ 1 none ∈ Ts) (hd : decode cc pc = .ok (.invokespecial idx, 3)) (hf : 1 ≤ R.frames) (hlo : (st.map fun v => v.category).sum + 12 ≤ R.locals) (k : V cells slots (pc + 3) lv st w) : V cells slots pc lv (.ref a :: st) w := by
  obtain ⟨p, l, e, s, mi, args, below, meth, c, Q, dC, dI, A, hx, hb, hml, hown, hts, hst, hK, hA, hE, hNE, hin, hret, rfl⟩ := C
  intro H locs ls hP hD hS hl
  refine W.objInit (g := F0 mi pc ls (.ref a :: st)) (a := a) (rest := st) hx hb hown (hts _ hlk) (hts _ hi) (hts _ hc) rfl (by rw [hml]; exact hl.1) rfl hd hf (by show 2 * 0 + _ + 12 ≤ _; omega) ?_
  exact W.eq (g2 := F0 mi (pc + 3) ls st) rfl (k H locs ls hP hD hS hl)
set_option maxRecDepth 100000 in
set_option maxHeartbeats 1000000 in
theorem n_newa {own : String} {cc : ByteArray} {nL : Nat} {Ts : List Cond} {R : Room} {dA : Nat → ClassId} {I : Bool} {Post : va_W → Prop} {V : nTy} (C : nCX own cc nL Ts R dA I Post V) {cells slots pc : Nat} {lv : List (Nat × Value)} {st : List Value} {w : va_W} {x : Nat × va_E} {atype : ArrayType} {ty : FieldType} {n : Int32} {N' : Nat} {a0 : vp_A} (t : Nat) (hd : decode cc pc = .ok (.newarray atype, 2)) (harr : Cond.arrayClass (newarray.typeOf atype) ∈ Ts) (hty : newarray.typeOf atype = ty) (ht : ∀ dA, (s_tys dA)[t]? = some (dA t, ty)) (ha : ∀ cA : ClassId, vp_cell cA a0 = arrV cA N' (fun _ => defaultValue ty)) (hn : ¬ n < 0) (hN : n.toNatClampNeg = N') (hbytes : N' * componentBytes ty ≤ 536870912) (hc : cells + 1 ≤ R.cells) (hs : slots + N' ≤ R.slots) (k : ∀ q, V (cells + 1) (slots + N') (pc + 2) lv (.ref q :: st) (x :: (w ++ [(q, .inl (dA t, a0))]))) : V cells slots pc lv (.int n :: st) (x :: w) := by
  obtain ⟨p, l, e, s, mi, args, below, meth, c, Q, dC, dI, A, hx, hb, hml, hown, hts, hst, hK, hA, hE, hNE, hin, hret, rfl⟩ := C
  intro H locs ls hP hD hS hl
  refine va_newa (D := (dC, dI)) hx hb (atype := atype) (hts _ harr) hty hK hP hD hS hA (N' := N') (a0 := a0) ha hn hN hbytes hc hs hd (fun q cA H1 hK1 hP1 hD1 hS1 => ?_)
  have e9 := n_cls (ht dA) hK1
  subst e9
  exact k q H1 locs ls hP1 hD1 hS1 hl
set_option maxRecDepth 100000 in
set_option maxHeartbeats 1000000 in
theorem n_newq {own : String} {cc : ByteArray} {nL : Nat} {Ts : List Cond} {R : Room} {dA : Nat → ClassId} {I : Bool} {Post : va_W → Prop} {V : nTy} (C : nCX own cc nL Ts R dA I Post V) {cells slots pc : Nat} {lv : List (Nat × Value)} {st : List Value} {w : va_W} {x : Nat × va_E} {C' : String} {index : Nat} {n : Int32} {N' : Nat} (t : Nat) (hd : decode cc pc = .ok (.anewarray index, 3)) (hcl : Cond.classLink own index C' ∈ Ts) (hov : ∀ U, n_E U → va_AO C' U) (ht : ∀ dA, (s_tys dA)[t]? = some (dA t, .object C')) (hn : ¬ n < 0) (hN : n.toNatClampNeg = N') (hbytes : N' * 4 ≤ 536870912) (hc : cells + 1 ≤ R.cells) (hs : slots + N' ≤ R.slots) (k : ∀ q, V (cells + 1) (slots + N') (pc + 3) lv (.ref q :: st) (x :: (w ++ [(q, .inl (dA t, N', .inr (.inr (.inr (.inr (fun _ => none))))))]))) : V cells slots pc lv (.int n :: st) (x :: w) := by
  obtain ⟨p, l, e, s, mi, args, below, meth, c, Q, dC, dI, A, hx, hb, hml, hown, hts, hst, hK, hA, hE, hNE, hin, hret, rfl⟩ := C
  intro H locs ls hP hD hS hl
  refine va_newq (D := (dC, dI)) hx hb hown (hts _ hcl) (hov s hNE) hK hP hD hS hA (N' := N') hn hN hbytes hc hs hd (fun q cA H1 hK1 hP1 hD1 hS1 => ?_)
  have e9 := n_cls (ht dA) hK1
  subst e9
  exact k q H1 locs ls hP1 hD1 hS1 hl
set_option maxRecDepth 100000 in
set_option maxHeartbeats 1000000 in
theorem n_new {own : String} {cc : ByteArray} {nL : Nat} {Ts : List Cond} {R : Room} {dA : Nat → ClassId} {I : Bool} {Post : va_W → Prop} {V : nTy} (C : nCX own cc nL Ts R dA I Post V) {cells slots pc : Nat} {lv : List (Nat × Value)} {st : List Value} {w : va_W} {ci N index : Nat} {C' : String} {T : u_T} {fs : List Value} {tyf : Nat → FieldType} (hd : decode cc pc = .ok (.new index, 3)) (hin9 : ∀ w ∈ u_ws C' T N, w ∈ Ts) (hty : ∀ k, k < N → parseFieldDescriptor (T k).2.2.1 = some (tyf k)) (hcl : Cond.classLink own index C' ∈ Ts) (hinst : Cond.instantiable C' N ∈ Ts) (hini : Cond.initialized C' ∈ Ts) (hc9 : vwCl[ci]? = some (C', T, N)) (hfs : ∀ j, j < N → defaultValue (tyf j) = vp_V fs j) (hc : cells + 1 ≤ R.cells) (hs : slots + N ≤ R.slots) (k : ∀ q, V (cells + 1) (slots + N) (pc + 3) lv (.ref q :: st) (w ++ [(q, .inr (ci, fs))])) : V cells slots pc lv st w := by
  obtain ⟨p, l, e, s, mi, args, below, meth, c, Q, dC, dI, A, hx, hb, hml, hown, hts, hst, hK, hA, hE, hNE, hin, hret, rfl⟩ := C
  intro H locs ls hP hD hS hl
  refine va_new (D := (dC, dI)) (ci := ci) (fs := fs) (C := C') (T := T) (N := N) hx hb hts hin9 tyf hty hown (hts _ hcl) (hts _ hinst) (hts _ hini) hK hP hD hS hA hc9 hfs hc hs hd (fun q H1 hP1 hD1 hS1 => ?_)
  exact k q H1 locs ls hP1 hD1 hS1 hl
set_option maxRecDepth 100000 in
set_option maxHeartbeats 1000000 in
theorem n_put {own : String} {cc : ByteArray} {nL : Nat} {Ts : List Cond} {R : Room} {dA : Nat → ClassId} {I : Bool} {Post : va_W → Prop} {V : nTy} (C : nCX own cc nL Ts R dA I Post V) {cells slots pc : Nat} {lv : List (Nat × Value)} {st : List Value} {w : va_W} {a ci N index kf : Nat} {C' ref : String} {T : u_T} {fs fs' : List Value} {tyf : Nat → FieldType} {ty : FieldType} {v : Value} (hd : decode cc pc = .ok (.putfield index, 3)) (hin9 : ∀ w ∈ u_ws C' T N, w ∈ Ts) (hty : ∀ k, k < N → parseFieldDescriptor (T k).2.2.1 = some (tyf k)) (hnm : ∀ a, a < N → ∀ b, b < N → a ≠ b → (T a).2.1 ≠ (T b).2.1) (hc9 : vwCl[ci]? = some (C', T, N)) (hk : kf < N) (hlink : Cond.fieldLink own index ref (T kf).2.1 (T kf).2.2.1 ∈ Ts) (href : (T kf).1 = ref) (hfin : (T kf).2.2.2 = false) (hd9 : parseFieldDescriptor (T kf).2.2.1 = some ty) (hn : narrow ty v = v) (hfit : fits ty v = true) (hlen : kf < fs.length) (hfs : fs.set kf v = fs') (k : V cells slots (pc + 3) lv st ((a, .inr (ci, fs')) :: w)) : V cells slots pc lv (v :: .ref a :: st) ((a, .inr (ci, fs)) :: w) := by
  obtain ⟨p, l, e, s, mi, args, below, meth, c, Q, dC, dI, A, hx, hb, hml, hown, hts, hst, hK, hA, hE, hNE, hin, hret, rfl⟩ := C
  intro H locs ls hP hD hS hl
  subst hfs
  refine va_put (D := (dC, dI)) (ci := ci) (v := v) (ty := ty) (C := C') (T := T) (N := N) hx hb hts hin9 tyf hty hnm hown hK hP hD hS 0 rfl hc9 kf hk (hts _ hlink) (fun _ h9 => by rw [href] at h9; exact h9) hfin hd9 hn hfit hlen hd (fun H1 locs1 hP1 hD1 hS1 => ?_)
  exact k H1 locs1 ls hP1 hD1 hS1 hl
set_option maxRecDepth 100000 in
set_option maxHeartbeats 1000000 in
theorem n_putF {own : String} {cc : ByteArray} {nL : Nat} {Ts : List Cond} {R : Room} {dA : Nat → ClassId} {I : Bool} {Post : va_W → Prop} {V : nTy} (C : nCX own cc nL Ts R dA I Post V) {cells slots pc : Nat} {lv : List (Nat × Value)} {st : List Value} {w : va_W} {a ci N index kf : Nat} {C' ref : String} {T : u_T} {fs fs' : List Value} {tyf : Nat → FieldType} {ty : FieldType} {v : Value} (hd : decode cc pc = .ok (.putfield index, 3)) (hin9 : ∀ w ∈ u_ws C' T N, w ∈ Ts) (hty : ∀ k, k < N → parseFieldDescriptor (T k).2.2.1 = some (tyf k)) (hnm : ∀ a, a < N → ∀ b, b < N → a ≠ b → (T a).2.1 ≠ (T b).2.1) (hc9 : vwCl[ci]? = some (C', T, N)) (hk : kf < N) (hlink : Cond.fieldLink own index ref (T kf).2.1 (T kf).2.2.1 ∈ Ts) (href : (T kf).1 = ref) (hfin : (T kf).2.2.2 = true) (hI : I = true) (hdecl : (T kf).1 = own) (hd9 : parseFieldDescriptor (T kf).2.2.1 = some ty) (hn : narrow ty v = v) (hfit : fits ty v = true) (hlen : kf < fs.length) (hfs : fs.set kf v = fs') (k : V cells slots (pc + 3) lv st ((a, .inr (ci, fs')) :: w)) : V cells slots pc lv (v :: .ref a :: st) ((a, .inr (ci, fs)) :: w) := by
  obtain ⟨p, l, e, s, mi, args, below, meth, c, Q, dC, dI, A, hx, hb, hml, hown, hts, hst, hK, hA, hE, hNE, hin, hret, rfl⟩ := C
  intro H locs ls hP hD hS hl
  subst hfs
  refine va_putF (D := (dC, dI)) (ci := ci) (v := v) (ty := ty) (C := C') (T := T) (N := N) hx hb hts hin9 tyf hty hnm hown hK hP hD hS 0 rfl hc9 kf hk (hts _ hlink) (fun _ h9 => by rw [href] at h9; exact h9) hfin (hin hI) hdecl hd9 hn hfit hlen hd (fun H1 locs1 hP1 hD1 hS1 => ?_)
  exact k H1 locs1 ls hP1 hD1 hS1 hl
set_option maxRecDepth 100000 in
set_option maxHeartbeats 1000000 in
theorem n_get {own : String} {cc : ByteArray} {nL : Nat} {Ts : List Cond} {R : Room} {dA : Nat → ClassId} {I : Bool} {Post : va_W → Prop} {V : nTy} (C : nCX own cc nL Ts R dA I Post V) {cells slots pc : Nat} {lv : List (Nat × Value)} {st : List Value} {w : va_W} {a ci N index kf : Nat} {C' ref : String} {T : u_T} {fs : List Value} {v : Value} (hd : decode cc pc = .ok (.getfield index, 3)) (hin9 : ∀ w ∈ u_ws C' T N, w ∈ Ts) (hc9 : vwCl[ci]? = some (C', T, N)) (hk : kf < N) (hlink : Cond.fieldLink own index ref (T kf).2.1 (T kf).2.2.1 ∈ Ts) (href : (T kf).1 = ref) (hv : fs[kf]? = some v) (k : V cells slots (pc + 3) lv (v :: st) ((a, .inr (ci, fs)) :: w)) : V cells slots pc lv (.ref a :: st) ((a, .inr (ci, fs)) :: w) := by
  obtain ⟨p, l, e, s, mi, args, below, meth, c, Q, dC, dI, A, hx, hb, hml, hown, hts, hst, hK, hA, hE, hNE, hin, hret, rfl⟩ := C
  intro H locs ls hP hD hS hl
  exact va_get (D := (dC, dI)) (ci := ci) (v := v) (C := C') (T := T) (N := N) hx hb hts hin9 hown hK hP 0 rfl hc9 kf hk (hts _ hlink) (fun _ h9 => by rw [href] at h9; exact h9) hv hd (k H locs ls hP hD hS hl)
set_option maxRecDepth 100000 in
set_option maxHeartbeats 1000000 in
theorem n_ast {own : String} {cc : ByteArray} {nL : Nat} {Ts : List Cond} {R : Room} {dA : Nat → ClassId} {I : Bool} {Post : va_W → Prop} {V : nTy} (C : nCX own cc nL Ts R dA I Post V) {cells slots pc : Nat} {lv : List (Nat × Value)} {st : List Value} {w : va_W} {x : Nat × va_E} {b v n ci : Nat} {r : vw_C} {vs : List Value} {f : Nat → Option Nat} (t : Nat) {i : Int32} {j : Nat} (hd : decode cc pc = .ok (.aastore, 1)) (ht : ∀ dA, (s_tys dA)[t]? = some (dA t, .object r.1)) (hc9 : vwCl[ci]? = some r) (hin9 : vp_in i n) (hj : i.toNatClampNeg = j) (k : V cells slots (pc + 1) lv st (x :: (b, .inl (dA t, n, .inr (.inr (.inr (.inr (va_up f j (some v))))))) :: (v, .inr (ci, vs)) :: w)) : V cells slots pc lv (.ref v :: .int i :: .ref b :: st) (x :: (b, .inl (dA t, n, .inr (.inr (.inr (.inr f))))) :: (v, .inr (ci, vs)) :: w) := by
  obtain ⟨p, l, e, s, mi, args, below, meth, c, Q, dC, dI, A, hx, hb, hml, hown, hts, hst, hK, hA, hE, hNE, hin, hret, rfl⟩ := C
  intro H locs ls hP hD hS hl
  subst hj
  exact va_astq (D := (dC, dI)) hx hb hK hP hD hS 1 t 2 ci rfl (ht dA) rfl hc9 hin9 hd (fun H1 locs1 hP1 hD1 hS1 => k H1 locs1 ls hP1 hD1 hS1 hl)
set_option maxRecDepth 100000 in
set_option maxHeartbeats 1000000 in
theorem n_ret {own : String} {cc : ByteArray} {nL : Nat} {Ts : List Cond} {R : Room} {dA : Nat → ClassId} {I : Bool} {Post : va_W → Prop} {V : nTy} (C : nCX own cc nL Ts R dA I Post V) {cells slots pc : Nat} {lv : List (Nat × Value)} {w : va_W} (hd : decode cc pc = .ok (.return_, 1)) (hc : cells ≤ R.cells) (hs : slots ≤ R.slots) (hp : Post w) : V cells slots pc lv [] w := by
  obtain ⟨p, l, e, s, mi, args, below, meth, c, Q, dC, dI, A, hx, hb, hml, hown, hts, hst, hK, hA, hE, hNE, hin, hret, rfl⟩ := C
  intro H locs ls hP hD hS hl
  exact W.widen hc hs (hret w H locs ls pc hd hp hP hD hS)
set_option maxRecDepth 100000 in
set_option maxHeartbeats 1000000 in
theorem n_callN {own : String} {cc : ByteArray} {nL : Nat} {Ts : List Cond} {R : Room} {dA : Nat → ClassId} {I : Bool} {Post : va_W → Prop} {V : nTy} (C : nCX own cc nL Ts R dA I Post V) {cells slots pc : Nat} {lv : List (Nat × Value)} {st : List Value} {w : va_W} {q : Nat} {e0 : va_E} {y' : MethodName} {ws' w' : List Cond} {fr' lc' mc' ms' index maxL' : Nat} {cc' : ByteArray} {host : String} {Post' : (Nat → ClassId) → Nat → va_W → Prop} (con : n_Con y' ws' fr' lc' mc' ms' e0 Post') (hd : decode cc pc = .ok (.invokespecial index, 3)) (hG : GoodIn Ts ws') (hlink : (own, index, y', host) ∈ s_nest) (hini : Cond.initialized y'.cls ∈ Ts) (hinst : Cond.instanceMethod y' ∈ Ts) (hname : y'.name = "<init>") (hw : ws' = Cond.code y' cc' maxL' none :: w') (hd9 : y'.cls ≠ "java/lang/invoke/MethodHandle" ∧ y'.cls ≠ "java/lang/invoke/VarHandle" ∧ (parseMethodDescriptor y'.desc).map (fun d => d.parameters.length) = some 0) (hR : fr' + 1 ≤ R.frames ∧ 8 + (maxL' + 11) + lc' ≤ R.locals) (hcat : (st.map fun v => v.category).sum ≤ 8) (hc : cells + mc' ≤ R.cells) (hs : slots + ms' ≤ R.slots) (k : ∀ w1, Post' dA q w1 → V (cells + mc') (slots + ms') (pc + 3) lv st (w ++ w1)) : V cells slots pc lv (.ref q :: st) (w ++ [(q, e0)]) := by
  obtain ⟨p, l, e, s, mi, args, below, meth, c, Q, dC, dI, A, hx, hb, hml, hown, hts, hst, hK, hA, hE, hNE, hin, hret, rfl⟩ := C
  intro H locs ls hP hD hS hl
  have hFc : ∀ z, va_A [(q, e0)] H.size z → A z := fun z hz => by
    rcases hz with ⟨k9, e9, h9⟩ | hz
    · have h8 := List.mem_of_getElem? h9
      rw [List.mem_singleton] at h8
      have h7 : z = q := congrArg Prod.fst h8
      rw [h7]
      exact (n_D_iff.mp hD).2 (q, e0) (List.mem_append_right _ (List.mem_singleton.mpr rfl))
    · exact hA z (Nat.le_trans hS.1 hz)
  have hPc : va_P (dC, dI) vwCl [(q, e0)] H := n_P_iff.mpr fun z hz => n_P_iff.mp hP z (List.mem_append_right _ hz)
  have hDc : va_D (fun _ => True) [(q, e0)] := n_D_iff.mpr ⟨List.pairwise_singleton _ _, fun _ _ => trivial⟩
  refine va_callv (va_runIN (R := R) (locs := locs) (cells := cells) (slots := slots) (As := []) (rest := st) (g := F0 mi pc ls (.ref q :: st)) ⟨hx, hb, hml, hown, hts⟩ (con l hst dC dI dA q H.size) ⟨va_cnB (host := host) 0 hts hG hw rfl rfl (hE.1 _ hlink) (hts _ hini) hd9 hR, hname, hts _ hinst⟩ ⟨fun a U g mk z => by obtain ⟨q0, q1, qP, qK, qD, qE, qN⟩ := z; exact ⟨q0, q1, qP, va_K.moved (u := U) (U := U.calling g mk a) (Vm.Alike.refl U.vm) qK, qD, qE.same rfl rfl, n_E.moved (u := U) (U := U.calling g mk a) (Vm.Alike.refl U.vm) qN⟩, fun U hU hW => ⟨rfl, by rw [hU], by rw [hU]; exact hPc, va_K.moved hW.alike hK, hDc, s_E.go hW hS hU hFc hE, n_E.moved hW.alike hNE⟩⟩ rfl rfl hl.1 rfl (lv_room hcat) hd ⟨hc, hs⟩) hS (fun z _ h => hFc z h) hFc (fun w1 t H1 locs1 ht hvm hw1 hB hz1 hk1 hS1 => ?_)
  obtain ⟨hP1, hD1⟩ := hB
  rw [ht] at hP1
  obtain ⟨hP2, hD2⟩ := n_join hP hD hk1 hFc hP1 hD1
  exact k w1 hw1 H1 locs1 ls hP2 hD2 hS1 hl
set_option maxRecDepth 100000 in
set_option maxHeartbeats 1000000 in
theorem n_callI {own : String} {cc : ByteArray} {nL : Nat} {Ts : List Cond} {R : Room} {dA : Nat → ClassId} {I : Bool} {Post : va_W → Prop} {V : nTy} (C : nCX own cc nL Ts R dA I Post V) {cells slots pc : Nat} {lv : List (Nat × Value)} {st : List Value} {w : va_W} {q : Nat} {e0 : va_E} {y' : MethodName} {ws' w' : List Cond} {fr' lc' mc' ms' index maxL' : Nat} {cc' : ByteArray} {host : String} {Post' : (Nat → ClassId) → Nat → va_W → Prop} (con : n_Con y' ws' fr' lc' mc' ms' e0 Post') (hd : decode cc pc = .ok (.invokespecial index, 3)) (hG : GoodIn Ts ws') (hlink : Cond.methodLink own index y' ∈ Ts) (hini : Cond.initialized y'.cls ∈ Ts) (hinst : Cond.instanceMethod y' ∈ Ts) (hname : y'.name = "<init>") (hw : ws' = Cond.code y' cc' maxL' none :: w') (hd9 : y'.cls ≠ "java/lang/invoke/MethodHandle" ∧ y'.cls ≠ "java/lang/invoke/VarHandle" ∧ (parseMethodDescriptor y'.desc).map (fun d => d.parameters.length) = some 0) (hR : fr' + 1 ≤ R.frames ∧ 8 + (maxL' + 11) + lc' ≤ R.locals) (hcat : (st.map fun v => v.category).sum ≤ 8) (hc : cells + mc' ≤ R.cells) (hs : slots + ms' ≤ R.slots) (k : ∀ w1, Post' dA q w1 → V (cells + mc') (slots + ms') (pc + 3) lv st (w ++ w1)) : V cells slots pc lv (.ref q :: st) (w ++ [(q, e0)]) := by
  obtain ⟨p, l, e, s, mi, args, below, meth, c, Q, dC, dI, A, hx, hb, hml, hown, hts, hst, hK, hA, hE, hNE, hin, hret, rfl⟩ := C
  intro H locs ls hP hD hS hl
  have hFc : ∀ z, va_A [(q, e0)] H.size z → A z := fun z hz => by
    rcases hz with ⟨k9, e9, h9⟩ | hz
    · have h8 := List.mem_of_getElem? h9
      rw [List.mem_singleton] at h8
      have h7 : z = q := congrArg Prod.fst h8
      rw [h7]
      exact (n_D_iff.mp hD).2 (q, e0) (List.mem_append_right _ (List.mem_singleton.mpr rfl))
    · exact hA z (Nat.le_trans hS.1 hz)
  have hPc : va_P (dC, dI) vwCl [(q, e0)] H := n_P_iff.mpr fun z hz => n_P_iff.mp hP z (List.mem_append_right _ hz)
  have hDc : va_D (fun _ => True) [(q, e0)] := n_D_iff.mpr ⟨List.pairwise_singleton _ _, fun _ _ => trivial⟩
  refine va_callv (va_runI (R := R) (locs := locs) (cells := cells) (slots := slots) (As := []) (rest := st) (g := F0 mi pc ls (.ref q :: st)) ⟨hx, hb, hml, hown, hts⟩ (con l hst dC dI dA q H.size) (cwI 0 hts hG hw rfl rfl (hts _ hini) (hts _ hlink) (hts _ hinst) hname hd9 hR) ⟨fun a U g mk z => by obtain ⟨q0, q1, qP, qK, qD, qE, qN⟩ := z; exact ⟨q0, q1, qP, va_K.moved (u := U) (U := U.calling g mk a) (Vm.Alike.refl U.vm) qK, qD, qE.same rfl rfl, n_E.moved (u := U) (U := U.calling g mk a) (Vm.Alike.refl U.vm) qN⟩, fun U hU hW => ⟨rfl, by rw [hU], by rw [hU]; exact hPc, va_K.moved hW.alike hK, hDc, s_E.go hW hS hU hFc hE, n_E.moved hW.alike hNE⟩⟩ rfl rfl hl.1 rfl (lv_room hcat) hd ⟨hc, hs⟩) hS (fun z _ h => hFc z h) hFc (fun w1 t H1 locs1 ht hvm hw1 hB hz1 hk1 hS1 => ?_)
  obtain ⟨hP1, hD1⟩ := hB
  rw [ht] at hP1
  obtain ⟨hP2, hD2⟩ := n_join hP hD hk1 hFc hP1 hD1
  exact k w1 hw1 H1 locs1 ls hP2 hD2 hS1 hl
