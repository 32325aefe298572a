/-! THE HELPERS OF THE LAW: methods with a table of their own. -/
def sCH {ρ : Type} (enc : ρ → Option Value) (lo n : Nat) (ad : Nat → Nat) (own : String) (cc : ByteArray) (nL : Nat) (ret : Option FieldType) (Ts : List Cond) (fr lc B : Nat) (hh : List (Nat × Nat × Nat × Nat)) (res : sR ρ) (V : sV) : Prop :=
  ∃ (p : Program) (l : Launch) (e : Env) (s : State) (mi : MethodId) (args : Array Value) (below : List Frame) (meth : Method) (c : Code) (dC : Nat → ClassId) (dI : Nat → Nat → Nat) (dA : Nat → ClassId) (A : Nat → Prop),
    p.tables.exec = Jvm.exec ∧ c.code = cc ∧ c.maxLocals = nL ∧ s.vm.findClass own = some mi.cls ∧ (∀ w ∈ Ts, w.before args s = true) ∧ meth.sig.returnType = ret ∧ meth.locks = false ∧ c.exceptionTable.toList = tableOf hh ∧ l.stackTraces = false ∧
    va_K (dC, dI) vwCl (s_tys dA) s ∧ (∀ q, s_A ad lo n s.heap.size q → A q) ∧ s_E A s ∧
    V = fun b pc lv st m => ∀ (H : Heap) (locs : List Loc) (ls : Array Slot) (cells slots : Nat), cells + b ≤ B → slots + 6 * b ≤ 6 * B → va_P (dC, dI) vwCl (s_w dA ad lo n m) H → va_D A (s_w dA ad lo n m) → va_S A s.heap H locs → lv_has ls nL lv →
      W p l e ({ frames := fr, cells := B, slots := 6 * B, locals := lc } : Room) s mi args below meth c H locs cells slots (vx_MQ below (s_Q enc lo n dC dI dA ad A res) (s_X lo n dC dI dA ad A res) args s B (6 * B) A) (F0 mi pc ls st)
theorem s_conH_of {ρ : Type} {enc : ρ → Option Value} {lo n : Nat} {y : MethodName} {ws ws' : List Cond} {fr lc b : Nat} {f : sM → Option (sR ρ)} {mk : (Nat → Nat) → List Value} (cc : ByteArray) (nL : Nat) (ret : Option FieldType) (own : String) (hh : List (Nat × Nat × Nat × Nat)) (hy : plainName y.cls = true) (hown9 : y.cls = own) (hw : ws = Cond.codeWith y cc nL ret hh :: ws') (hn : ∀ ad, (lg_sl (mk ad)).length ≤ nL)
    (body : ∀ (ad : Nat → Nat) (m : sM) (res : sR ρ) (V : sV), sCH enc lo n ad own cc nL ret ws fr lc b hh res V → f m = some res → V b 0 (lv_args 0 (mk ad)) [] m) : s_Con enc lo n y ws fr lc b f mk := by
  subst hown9
  intro l hst dC dI dA ad sz m res hf
  refine vx_ofWH (cc := cc) (maxL := nL) (ret := ret) (hh := hh) hy hw ?_
  intro p e s mi args below meth c s₁ B hml hv
  obtain ⟨rfl, hsz, hP, hK, hD0, hE⟩ := hv
  subst hsz
  have hD : va_D (s_A ad lo n s.heap.size) (s_w dA ad lo n m) := s_D_any hD0
  have hl := lv_entry (mk ad) (n := nL) (hn ad)
  rw [lg_entry_eq]
  have hts := atoms_spec (ws := ws) B.pre
  exact body ad m res _ ⟨p, l, e, s, mi, _, below, meth, c, dC, dI, dA, s_A ad lo n s.heap.size, B.exec, B.bytes, hml, findClass_of_methodNamed B.named, hts, B.returns, B.notSynchronized, vx_table (x := y) B (hts _ (by rw [hw]; exact List.mem_cons_self)), hst, hK, fun _ h => h, hE, rfl⟩ hf s.heap [] _ 0 0 (Nat.le_of_eq (Nat.zero_add b)) (Nat.le_of_eq (Nat.zero_add _)) hP hD va_S.rf hl
def s_try {α β : Type} (x : Option (sR α)) (k : α → sM → Option (sR β)) (y : String → sM → Option (sR β)) : Option (sR β) := match x with
  | none => none
  | some (.inl r, m) => k r m
  | some (.inr E, m) => y E m
theorem h_iconst {ρ : Type} {enc : ρ → Option Value} {lo n : Nat} {ad : Nat → Nat} {own : String} {cc : ByteArray} {nL : Nat} {ret : Option FieldType} {Ts : List Cond} {fr lc B : Nat} {hh : List (Nat × Nat × Nat × Nat)} {res : sR ρ} {V : sV} (C : sCH enc lo n ad own cc nL ret Ts fr lc B hh res V) {b pc : Nat} {lv : List (Nat × Value)} {st : List Value} {m : sM} {i : Int} {v : Int32} (hd : decode cc pc = .ok (.iconst i, 1)) (hv : Int32.ofInt i = v) (k : V b (pc + 1) lv (.int v :: st) m) : V b pc lv (st) m := by
  obtain ⟨p, l, e, s, mi, args, below, meth, c, dC, dI, dA, A, hx, hb, hml, hown, hts, hr, hlocks, htab, hst, hK, hA1, hE, rfl⟩ := C
  intro H locs ls cells slots hc hs hP hD hS hl
  exact lv_iconst hx hb hd hv (k H locs ls cells slots hc hs hP hD hS hl)
theorem h_lconst {ρ : Type} {enc : ρ → Option Value} {lo n : Nat} {ad : Nat → Nat} {own : String} {cc : ByteArray} {nL : Nat} {ret : Option FieldType} {Ts : List Cond} {fr lc B : Nat} {hh : List (Nat × Nat × Nat × Nat)} {res : sR ρ} {V : sV} (C : sCH enc lo n ad own cc nL ret Ts fr lc B hh res V) {b pc : Nat} {lv : List (Nat × Value)} {st : List Value} {m : sM} {i : Fin 2} {v : Int64} (hd : decode cc pc = .ok (.lconst i, 1)) (hv : Int64.ofNat (i : Nat) = v) (k : V b (pc + 1) lv (.long v :: st) m) : V b pc lv (st) m := by
  obtain ⟨p, l, e, s, mi, args, below, meth, c, dC, dI, dA, A, hx, hb, hml, hown, hts, hr, hlocks, htab, hst, hK, hA1, hE, rfl⟩ := C
  intro H locs ls cells slots hc hs hP hD hS hl
  exact lv_lconst hx hb hd hv (k H locs ls cells slots hc hs hP hD hS hl)
theorem h_iload_n {ρ : Type} {enc : ρ → Option Value} {lo n : Nat} {ad : Nat → Nat} {own : String} {cc : ByteArray} {nL : Nat} {ret : Option FieldType} {Ts : List Cond} {fr lc B : Nat} {hh : List (Nat × Nat × Nat × Nat)} {res : sR ρ} {V : sV} (C : sCH enc lo n ad own cc nL ret Ts fr lc B hh res V) {b pc : Nat} {lv : List (Nat × Value)} {st : List Value} {m : sM} {q : Fin 4} {i : Nat} {x : Int32} (hd : decode cc pc = .ok (.iload_n q, 1)) (hi : (q : Nat) = i) (kk : Nat) (hv : lv[kk]? = some (i, .int x)) (k : V b (pc + 1) lv (.int x :: st) m) : V b pc lv st m := by
  obtain ⟨p, l, e, s, mi, args, below, meth, c, dC, dI, dA, A, hx, hb, hml, hown, hts, hr, hlocks, htab, hst, hK, hA1, hE, rfl⟩ := C
  intro H locs ls cells slots hc hs hP hD hS hl
  exact lv_iload_n hx hb hd hi (lv_at hl kk hv) (k H locs ls cells slots hc hs hP hD hS hl)
theorem h_iload {ρ : Type} {enc : ρ → Option Value} {lo n : Nat} {ad : Nat → Nat} {own : String} {cc : ByteArray} {nL : Nat} {ret : Option FieldType} {Ts : List Cond} {fr lc B : Nat} {hh : List (Nat × Nat × Nat × Nat)} {res : sR ρ} {V : sV} (C : sCH enc lo n ad own cc nL ret Ts fr lc B hh res V) {b pc : Nat} {lv : List (Nat × Value)} {st : List Value} {m : sM} {i : Nat} {x : Int32} (hd : decode cc pc = .ok (.iload i, 2)) (kk : Nat) (hv : lv[kk]? = some (i, .int x)) (k : V b (pc + 2) lv (.int x :: st) m) : V b pc lv st m := by
  obtain ⟨p, l, e, s, mi, args, below, meth, c, dC, dI, dA, A, hx, hb, hml, hown, hts, hr, hlocks, htab, hst, hK, hA1, hE, rfl⟩ := C
  intro H locs ls cells slots hc hs hP hD hS hl
  exact lv_iload hx hb hd (lv_at hl kk hv) (k H locs ls cells slots hc hs hP hD hS hl)
theorem h_aload_n {ρ : Type} {enc : ρ → Option Value} {lo n : Nat} {ad : Nat → Nat} {own : String} {cc : ByteArray} {nL : Nat} {ret : Option FieldType} {Ts : List Cond} {fr lc B : Nat} {hh : List (Nat × Nat × Nat × Nat)} {res : sR ρ} {V : sV} (C : sCH enc lo n ad own cc nL ret Ts fr lc B hh res V) {b pc : Nat} {lv : List (Nat × Value)} {st : List Value} {m : sM} {q : Fin 4} {i : Nat} {x : Nat} (hd : decode cc pc = .ok (.aload_n q, 1)) (hi : (q : Nat) = i) (kk : Nat) (hv : lv[kk]? = some (i, .ref x)) (k : V b (pc + 1) lv (.ref x :: st) m) : V b pc lv st m := by
  obtain ⟨p, l, e, s, mi, args, below, meth, c, dC, dI, dA, A, hx, hb, hml, hown, hts, hr, hlocks, htab, hst, hK, hA1, hE, rfl⟩ := C
  intro H locs ls cells slots hc hs hP hD hS hl
  exact lv_aload_n hx hb hd hi (lv_at hl kk hv) (k H locs ls cells slots hc hs hP hD hS hl)
theorem h_aload {ρ : Type} {enc : ρ → Option Value} {lo n : Nat} {ad : Nat → Nat} {own : String} {cc : ByteArray} {nL : Nat} {ret : Option FieldType} {Ts : List Cond} {fr lc B : Nat} {hh : List (Nat × Nat × Nat × Nat)} {res : sR ρ} {V : sV} (C : sCH enc lo n ad own cc nL ret Ts fr lc B hh res V) {b pc : Nat} {lv : List (Nat × Value)} {st : List Value} {m : sM} {i : Nat} {x : Nat} (hd : decode cc pc = .ok (.aload i, 2)) (kk : Nat) (hv : lv[kk]? = some (i, .ref x)) (k : V b (pc + 2) lv (.ref x :: st) m) : V b pc lv st m := by
  obtain ⟨p, l, e, s, mi, args, below, meth, c, dC, dI, dA, A, hx, hb, hml, hown, hts, hr, hlocks, htab, hst, hK, hA1, hE, rfl⟩ := C
  intro H locs ls cells slots hc hs hP hD hS hl
  exact lv_aload hx hb hd (lv_at hl kk hv) (k H locs ls cells slots hc hs hP hD hS hl)
theorem h_astore_n {ρ : Type} {enc : ρ → Option Value} {lo n : Nat} {ad : Nat → Nat} {own : String} {cc : ByteArray} {nL : Nat} {ret : Option FieldType} {Ts : List Cond} {fr lc B : Nat} {hh : List (Nat × Nat × Nat × Nat)} {res : sR ρ} {V : sV} (C : sCH enc lo n ad own cc nL ret Ts fr lc B hh res V) {b pc : Nat} {lv : List (Nat × Value)} {st : List Value} {m : sM} {q : Fin 4} {i : Nat} {x : Nat} {lv' : List (Nat × Value)} (hd : decode cc pc = .ok (.astore_n q, 1)) (hi : (q : Nat) = i) (hn : i < nL) (hv : (i, Value.ref x) :: lv.filter (fun q => !(q.1 == i) && !(q.1 + 1 == i && q.2.category == 2)) = lv') (k : V b (pc + 1) lv' st m) : V b pc lv (.ref x :: st) m := by
  obtain ⟨p, l, e, s, mi, args, below, meth, c, dC, dI, dA, A, hx, hb, hml, hown, hts, hr, hlocks, htab, hst, hK, hA1, hE, rfl⟩ := C
  intro H locs ls cells slots hc hs hP hD hS hl
  exact lv_astore_n hx hb hd hi hl hn hv (fun ls hl => k H locs ls cells slots hc hs hP hD hS hl)
theorem h_astore {ρ : Type} {enc : ρ → Option Value} {lo n : Nat} {ad : Nat → Nat} {own : String} {cc : ByteArray} {nL : Nat} {ret : Option FieldType} {Ts : List Cond} {fr lc B : Nat} {hh : List (Nat × Nat × Nat × Nat)} {res : sR ρ} {V : sV} (C : sCH enc lo n ad own cc nL ret Ts fr lc B hh res V) {b pc : Nat} {lv : List (Nat × Value)} {st : List Value} {m : sM} {i : Nat} {x : Nat} {lv' : List (Nat × Value)} (hd : decode cc pc = .ok (.astore i, 2)) (hn : i < nL) (hv : (i, Value.ref x) :: lv.filter (fun q => !(q.1 == i) && !(q.1 + 1 == i && q.2.category == 2)) = lv') (k : V b (pc + 2) lv' st m) : V b pc lv (.ref x :: st) m := by
  obtain ⟨p, l, e, s, mi, args, below, meth, c, dC, dI, dA, A, hx, hb, hml, hown, hts, hr, hlocks, htab, hst, hK, hA1, hE, rfl⟩ := C
  intro H locs ls cells slots hc hs hP hD hS hl
  exact lv_astore hx hb hd hl hn hv (fun ls hl => k H locs ls cells slots hc hs hP hD hS hl)
theorem h_i2l {ρ : Type} {enc : ρ → Option Value} {lo n : Nat} {ad : Nat → Nat} {own : String} {cc : ByteArray} {nL : Nat} {ret : Option FieldType} {Ts : List Cond} {fr lc B : Nat} {hh : List (Nat × Nat × Nat × Nat)} {res : sR ρ} {V : sV} (C : sCH enc lo n ad own cc nL ret Ts fr lc B hh res V) {b pc : Nat} {lv : List (Nat × Value)} {st : List Value} {m : sM} {x : Int32} (hd : decode cc pc = .ok (.i2l, 1))  (k : V b (pc + 1) lv (.long x.toInt64 :: st) m) : V b pc lv (.int x :: st) m := by
  obtain ⟨p, l, e, s, mi, args, below, meth, c, dC, dI, dA, A, hx, hb, hml, hown, hts, hr, hlocks, htab, hst, hK, hA1, hE, rfl⟩ := C
  intro H locs ls cells slots hc hs hP hD hS hl
  exact lv_i2l hx hb hd rfl (k H locs ls cells slots hc hs hP hD hS hl)
theorem h_goto {ρ : Type} {enc : ρ → Option Value} {lo n : Nat} {ad : Nat → Nat} {own : String} {cc : ByteArray} {nL : Nat} {ret : Option FieldType} {Ts : List Cond} {fr lc B : Nat} {hh : List (Nat × Nat × Nat × Nat)} {res : sR ρ} {V : sV} (C : sCH enc lo n ad own cc nL ret Ts fr lc B hh res V) {b pc : Nat} {lv : List (Nat × Value)} {st : List Value} {m : sM} {off : Int} {tgt : Nat} (hd : decode cc pc = .ok (.goto off, 3)) (ht : (pc : Int) + off = (tgt : Int)) (k : V b tgt lv st m) : V b pc lv st m := by
  obtain ⟨p, l, e, s, mi, args, below, meth, c, dC, dI, dA, A, hx, hb, hml, hown, hts, hr, hlocks, htab, hst, hK, hA1, hE, rfl⟩ := C
  intro H locs ls cells slots hc hs hP hD hS hl
  exact lv_goto hx hb hd ht (k H locs ls cells slots hc hs hP hD hS hl)
theorem h_if_eq {ρ : Type} {enc : ρ → Option Value} {lo n : Nat} {ad : Nat → Nat} {own : String} {cc : ByteArray} {nL : Nat} {ret : Option FieldType} {Ts : List Cond} {fr lc B : Nat} {hh : List (Nat × Nat × Nat × Nat)} {res : sR ρ} {V : sV} (C : sCH enc lo n ad own cc nL ret Ts fr lc B hh res V) {b pc : Nat} {lv : List (Nat × Value)} {st : List Value} {m : sM} {x : Int32} {off : Int} {tgt : Nat} {i : Decidable (x = 0)} {X Y : Option (sR ρ)} (hd : decode cc pc = .ok (.ifCond .eq off, 3)) (ht : (pc : Int) + off = (tgt : Int)) (h : @ite _ (x = 0) i X Y = some res) (kt : x = 0 → X = some res → V b tgt lv st m) (kf : ¬ x = 0 → Y = some res → V b (pc + 3) lv st m) : V b pc lv (.int x :: st) m := by
  obtain ⟨p, l, e, s, mi, args, below, meth, c, dC, dI, dA, A, hx, hb, hml, hown, hts, hr, hlocks, htab, hst, hK, hA1, hE, rfl⟩ := C
  intro H locs ls cells slots hc hs hP hD hS hl
  exact lv_if_eq hx hb hd ht (fun hq => kt hq (s_pos hq h) H locs ls cells slots hc hs hP hD hS hl) (fun hq => kf hq (s_neg hq h) H locs ls cells slots hc hs hP hD hS hl)
theorem h_sub {ρ : Type} {enc : ρ → Option Value} {lo n : Nat} {ad : Nat → Nat} {own : String} {cc : ByteArray} {nL : Nat} {ret : Option FieldType} {Ts : List Cond} {fr lc B : Nat} {hh : List (Nat × Nat × Nat × Nat)} {res : sR ρ} {V : sV} (C : sCH enc lo n ad own cc nL ret Ts fr lc B hh res V) {b pc : Nat} {lv : List (Nat × Value)} {st : List Value} {m : sM} {lv' : List (Nat × Value)} (ks : List Nat) (hv : lv_pick lv ks = lv') (k : V b pc lv' st m) : V b pc lv st m := by
  obtain ⟨p, l, e, s, mi, args, below, meth, c, dC, dI, dA, A, hx, hb, hml, hown, hts, hr, hlocks, htab, hst, hK, hA1, hE, rfl⟩ := C
  intro H locs ls cells slots hc hs hP hD hS hl
  exact k H locs ls cells slots hc hs hP hD hS (lv_sub hl ks hv)
theorem h_less {ρ : Type} {enc : ρ → Option Value} {lo n : Nat} {ad : Nat → Nat} {own : String} {cc : ByteArray} {nL : Nat} {ret : Option FieldType} {Ts : List Cond} {fr lc B : Nat} {hh : List (Nat × Nat × Nat × Nat)} {res : sR ρ} {V : sV} (C : sCH enc lo n ad own cc nL ret Ts fr lc B hh res V) {b pc : Nat} {lv : List (Nat × Value)} {st : List Value} {m : sM} {b' : Nat} (hle : b' ≤ b) (k : V b' pc lv st m) : V b pc lv st m := by
  obtain ⟨p, l, e, s, mi, args, below, meth, c, dC, dI, dA, A, hx, hb, hml, hown, hts, hr, hlocks, htab, hst, hK, hA1, hE, rfl⟩ := C
  intro H locs ls cells slots hc hs hP hD hS hl
  exact k H locs ls cells slots (by omega) (by omega) hP hD hS hl
theorem h_last {ρ : Type} {enc : ρ → Option Value} {lo n : Nat} {ad : Nat → Nat} {own : String} {cc : ByteArray} {nL : Nat} {ret : Option FieldType} {Ts : List Cond} {fr lc B : Nat} {hh : List (Nat × Nat × Nat × Nat)} {res : sR ρ} {V : sV} (C : sCH enc lo n ad own cc nL ret Ts fr lc B hh res V) {b pc : Nat} {lv : List (Nat × Value)} {st : List Value} {m : sM} {a N : Nat} {ix : Int32} {x : Int64} {X : sM → Option (sR ρ)} (hd : decode cc pc = .ok (.lastore, 1)) (ha : lo ≤ a ∧ a < lo + n) (hL : sLay a = .inr (7, N, none)) (h : s_ix ix N (fun j => s_md (s_uL m a j x) X) = some res) (k : ∀ j m', j < N → m' = s_uL m a j x → X m' = some res → V b (pc + 1) lv st m') : V b pc lv (.long x :: .int ix :: .ref (ad a) :: st) m := by
  obtain ⟨p, l, e, s, mi, args, below, meth, c, dC, dI, dA, A, hx, hb, hml, hown, hts, hr, hlocks, htab, hst, hK, hA1, hE, rfl⟩ := C
  intro H locs ls cells slots hc hs hP hD hS hl
  obtain ⟨hin, h⟩ := s_gd_of h
  refine va_last (D := (dC, dI)) hx hb hK hP hD hS (a - lo) 7 (cA := dA 7) (n := N) (f := m.2 a) (by rw [s_at ha, hL]; rfl) rfl hin hd (fun H locs hP hD hS => ?_)
  have e9 : (s_w dA ad lo n m).set (a - lo) (ad a, .inl (dA 7, N, .inr (.inl (vp_updL (m.2 a) ix.toNatClampNeg x)))) = s_w dA ad lo n (s_uL m a ix.toNatClampNeg x) := s_set ha (fun b9 h9 => rfl) (fun b9 h9 => s_uL_ne h9) (by rw [hL]; unfold s_ent; rw [s_uL_eq]; rfl)
  rw [e9] at hP hD
  exact k _ _ (Nat.not_le.mp fun q => hin (Or.inr q)) rfl h H locs ls cells slots hc hs hP hD hS hl
theorem h_iret  {lo n : Nat} {ad : Nat → Nat} {own : String} {cc : ByteArray} {nL : Nat} {ret : Option FieldType} {Ts : List Cond} {fr lc B : Nat} {hh : List (Nat × Nat × Nat × Nat)} {res : sR Int32} {V : sV} (C : sCH s_i lo n ad own cc nL ret Ts fr lc B hh res V) {b pc : Nat} {lv : List (Nat × Value)} {m : sM} {x : Int32} (hd : decode cc pc = .ok (.ireturn, 1)) (hret : ret = some .int) (h : some (.inl x, m) = some res) : V b pc lv [.int x] m := by
  obtain ⟨p, l, e, s, mi, args, below, meth, c, dC, dI, dA, A, hx, hb, hml, hown, hts, hr, hlocks, htab, hst, hK, hA1, hE, rfl⟩ := C
  intro H locs ls cells slots hc hs hP hD hS hl
  subst hret
  refine W.widen (k := B) (n := 6 * B) (by omega) (by omega) ?_
  exact vx_ret (W.iret (v := x) hx hb hr (fun t ht hW => ⟨⟨_, m, (Option.some.inj h).symm, rfl, ⟨by rw [ht]; exact hP, hD⟩⟩, hS.F ht⟩) hS.2.2 hd)
theorem h_callV {ρ : Type} {enc : ρ → Option Value} {lo n : Nat} {ad : Nat → Nat} {own : String} {cc : ByteArray} {nL : Nat} {ret : Option FieldType} {Ts : List Cond} {fr lc B : Nat} {hh : List (Nat × Nat × Nat × Nat)} {res : sR ρ} {V : sV} (C : sCH enc lo n ad own cc nL ret Ts fr lc B hh res V) {b pc : Nat} {lv : List (Nat × Value)} {st : List Value} {m : sM} {σ : Type} {enc' : σ → Option Value} {y' : MethodName} {ws' w' : List Cond} {fr' lc' k9 : Nat} {f' : sM → Option (sR σ)} {mk' : (Nat → Nat) → List Value} {X : σ → sM → Option (sR ρ)} {Y : String → sM → Option (sR ρ)} {index nn maxL' : Nat} {cc' : ByteArray} {ret' : Option FieldType} {stk As : List Value} {C' : String} {ci N a : Nat} {T : u_T} {fs : List (Nat × Nat × Nat)} (con : s_Con enc' lo n y' ws' fr' lc' k9 f' mk') (hd : decode cc pc = .ok (.invokevirtual index, 3)) (hG : GoodIn Ts (wsV own index C' y' ws')) (hd9 : y'.cls = C' ∧ y'.cls ≠ "java/lang/invoke/MethodHandle" ∧ y'.cls ≠ "java/lang/invoke/VarHandle" ∧ (parseMethodDescriptor y'.desc).map (fun d => d.parameters.length) = some nn) (ha : lo ≤ a ∧ a < lo + n) (hL : sLay a = .inl (ci, fs)) (hc9 : vwCl[ci]? = some (C', T, N)) (hmk : mk' ad = .ref (ad a) :: As) (hw : ws' = Cond.code y' cc' maxL' ret' :: w') (hR : fr' + 1 ≤ fr ∧ 8 + (maxL' + 11) + lc' ≤ lc) (hnn : As.length = nn) (hsk : stk = As.reverse ++ .ref (ad a) :: st) (hcat : (st.map fun v => v.category).sum ≤ 8) (hb1 : k9 ≤ b) (h : s_try (f' m) X Y = some res)
    (kx : ∀ E m', Y E m' = some res → ∃ (pre : List ExceptionTableEntry) (x : ExceptionTableEntry) (suf : List ExceptionTableEntry), tableOf hh = pre ++ x :: suf ∧ (∀ z ∈ pre, z.catchType ≠ 0 ∧ ∃ nm : String, Cond.classLink own z.catchType nm ∈ Ts ∧ nm ∈ s_exc ∧ E ≠ nm) ∧ covers x pc = true ∧ x.catchType ≠ 0 ∧ Cond.classLink own x.catchType E ∈ Ts ∧ E ∈ s_exc ∧ ∀ q : Nat, V (b - k9) x.handlerPc lv [.ref q] m')
    (k : ∀ r m', X r m' = some res → V (b - k9) (pc + 3) lv ((enc' r).toList ++ st) m') : V b pc lv stk m := by
  obtain ⟨p, l, e, s, mi, args, below, meth, c, dC, dI, dA, A, hx, hb, hml, hown, hts, hr, hlocks, htab, hst, hK, hA1, hE, rfl⟩ := C
  intro H locs ls cells slots hc hs hP hD hS hl
  subst hsk
  cases hfm : f' m with
  | none => rw [hfm] at h; cases h
  | some res' =>
  have hAA : ∀ q, s_A ad lo n H.size q → A q := fun q hq => hA1 q (s_A.le hS.1 q hq)
  have hcl9 : cells + k9 ≤ B := by omega
  have hsl9 : slots + 6 * k9 ≤ 6 * B := by omega
  have hbl : FrameBlind (s_Pc lo n dC dI dA ad (mk' ad) H.size m) := fun a U g mk q => by
    obtain ⟨q1, q2, q3, q4, q5, q6⟩ := q
    exact ⟨q1, q2, q3, va_K.moved (u := U) (U := U.calling g mk a) (Vm.Alike.refl U.vm) q4, q5, q6.same rfl rfl⟩
  have hpre : ∀ (av : Array Value), av = (mk' ad).toArray → ∀ U : State, U.heap = H → s.WarmedH U.vm → s_Pc lo n dC dI dA ad (mk' ad) H.size m av U := fun av hav U hU hW => ⟨hav, by rw [hU], by rw [hU]; exact hP, va_K.moved hW.alike hK, hD.weaken (fun _ _ _ _ => trivial), s_E.go hW hS hU hAA hE⟩
  have hrun := vx_runV (p := p) (l := l) (e := e) (R := ({ frames := fr, cells := B, slots := 6 * B, locals := lc } : Room)) (below := below) (meth := meth) (locs := locs) (cells := cells) (slots := slots) (As := As) (rest := st) (g := F0 mi pc ls (As.reverse ++ .ref (ad a) :: st)) ⟨hx, hb, hml, hown, hts⟩ (con l hst dC dI dA ad H.size m res' hfm) (cwV (C := C') nn hts hG hw rfl rfl hd9 hR) ⟨hbl, va_recv hK hP hc9 (by rw [s_at ha, s_ent_obj hL]), fun U hU hW => hpre _ (by rw [hmk]) U hU hW⟩ rfl hnn hl.1 rfl (lv_room hcat) hd ⟨hcl9, hsl9⟩
  intro T hT X9
  rcases hrun T hT X9 with ⟨v, st₀, t, T', L, h0, X', hL, e1, e2, ⟨⟨r, m', hres, hv, hPW, hDW⟩, hF⟩, hgo⟩ | ⟨q, st₀, t, T', L, E, ce, h0, X', hL, e1, e2, ⟨m', hres, ⟨hPW, hDW⟩, hF⟩, hce, hcv, hcl, hgo⟩
  · cases hv
    rw [hfm, hres] at h
    obtain ⟨k1, k2, k3⟩ := vx_keep h0 e1 hS (fun q _ hq => hAA q hq) hAA hL hF
    obtain ⟨t2, a1, b1⟩ := k r m' h T'.heap (locs ++ L) ls (cells + k9) (slots + 6 * k9) (by omega) (by omega) (by rw [e1]; exact hPW) (hDW.weaken (fun _ _ _ h9 => hAA _ h9)) k3 hl T' rfl X'
    exact ⟨t2, hgo t2 a1, b1⟩
  · rw [hfm, hres] at h
    obtain ⟨k1, k2, k3⟩ := vx_keep h0 e1 hS (fun q _ hq => hAA q hq) hAA hL hF
    obtain ⟨pre, x, suf, g1, g2, g3, g4, g5, g6, g7⟩ := kx E m' h
    obtain ⟨w1, w2, w3, w6, w7, w4, w5⟩ := hE
    have hcat9 := vx_catch (p := p) (l := l) (e := e) (R := ({ frames := fr, cells := B, slots := 6 * B, locals := lc } : Room)) (s := s) (m := mi) (args := args) (below := below) (meth := meth) (c := c) (H := T'.heap) (locs := locs ++ L) (cells := cells + k9) (slots := slots + 6 * k9) (Q := vx_MQ below (s_Q enc lo n dC dI dA ad A res) (s_X lo n dC dI dA ad A res) args s B (6 * B) A) (pc := pc) (ls := ls) (rest := st) (q := q) hown pre x suf (by rw [htab, g1]) (fun z hz => by
      obtain ⟨z0, nm, z1, z2, z3⟩ := g2 z hz
      exact Or.inr ⟨z0, nm, hts _ z1, w7 _ g6 _ z2 z3⟩) g3 g4 (hts _ g5) ((w3 _ g6).use rfl) (by rw [e1]; exact hce) hcv hcl (g7 q T'.heap (locs ++ L) ls (cells + k9) (slots + 6 * k9) (by omega) (by omega) (by rw [e1]; exact hPW) (hDW.weaken (fun _ _ _ h9 => hAA _ h9)) k3 hl)
    obtain ⟨t2, a1, b1⟩ := hcat9 T' rfl X'
    exact ⟨t2, hgo.trans a1, b1⟩
/-! THE LAW'S BODY: the world is all cells 0 .. 138; a callee has a part of it. -/
def s_mix (lo n : Nat) (m1 m : sM) : sM := (fun a => if lo ≤ a ∧ a < lo + n then m1.1 a else m.1 a, fun a => if lo ≤ a ∧ a < lo + n then m1.2 a else m.2 a)
theorem s_D_m {dA : Nat → ClassId} {ad : Nat → Nat} {lo n : Nat} {m m' : sM} {A : Nat → Prop} (h : va_D A (s_w dA ad lo n m)) : va_D A (s_w dA ad lo n m') := by
  have key : ∀ {k : Nat} {q : Nat × va_E}, (s_w dA ad lo n m')[k]? = some q → ∃ q', (s_w dA ad lo n m)[k]? = some q' ∧ q'.1 = q.1 := fun {k q} hq => by
    obtain ⟨hk, rfl⟩ := s_at' hq
    have h2 := s_at (dA := dA) (ad := ad) (lo := lo) (n := n) (m := m) (a := lo + k) ⟨by omega, by omega⟩
    rw [show lo + k - lo = k by omega] at h2
    exact ⟨_, h2, rfl⟩
  refine ⟨fun i j p q hi hj hpq => ?_, fun k q hk => ?_⟩
  · obtain ⟨p', h1, h2⟩ := key hi
    obtain ⟨q', h3, h4⟩ := key hj
    exact h.1 i j p' q' h1 h3 (h2.trans (hpq.trans h4.symm))
  · obtain ⟨q', h1, h2⟩ := key hk
    rw [← h2]; exact h.2 k q' h1
theorem s_P_part {D : va_G} {cl : List vw_C} {dA : Nat → ClassId} {ad : Nat → Nat} {lo n lo' n' : Nat} {m : sM} {H : Heap} (h : va_P D cl (s_w dA ad lo n m) H) (h1 : lo ≤ lo') (h2 : lo' + n' ≤ lo + n) : va_P D cl (s_w dA ad lo' n' m) H := fun k q hk => by
  obtain ⟨hk', rfl⟩ := s_at' hk
  exact h _ _ (s_at (a := lo' + k) ⟨by omega, by omega⟩)
theorem s_D_part {dA : Nat → ClassId} {ad : Nat → Nat} {lo n lo' n' : Nat} {m : sM} {A B : Nat → Prop} (h : va_D A (s_w dA ad lo n m)) (h1 : lo ≤ lo') (h2 : lo' + n' ≤ lo + n) (hB : ∀ a, lo' ≤ a → a < lo' + n' → B (ad a)) : va_D B (s_w dA ad lo' n' m) := by
  refine ⟨fun i j p q hi hj hpq => ?_, fun k q hk => ?_⟩
  · obtain ⟨hi', rfl⟩ := s_at' hi
    obtain ⟨hj', rfl⟩ := s_at' hj
    have := h.1 _ _ _ _ (s_at (m := m) (dA := dA) (ad := ad) (a := lo' + i) ⟨by omega, by omega⟩) (s_at (m := m) (dA := dA) (ad := ad) (a := lo' + j) ⟨by omega, by omega⟩) hpq
    omega
  · obtain ⟨hk', rfl⟩ := s_at' hk
    exact hB _ (by omega) (by omega)
theorem s_inj {dA : Nat → ClassId} {ad : Nat → Nat} {lo n : Nat} {m : sM} {A : Nat → Prop} (h : va_D A (s_w dA ad lo n m)) {a b : Nat} (ha : lo ≤ a ∧ a < lo + n) (hb : lo ≤ b ∧ b < lo + n) (e : ad a = ad b) : a = b := by
  have := h.1 _ _ _ _ (s_at (m := m) (dA := dA) (ad := ad) ha) (s_at (m := m) (dA := dA) (ad := ad) hb) e
  omega
/-- behind a call on a part of the world: the rest stays -/
theorem s_P_mix {D : va_G} {cl : List vw_C} {dA : Nat → ClassId} {ad : Nat → Nat} {lo n lo' n' : Nat} {m m1 : sM} {H H1 : Heap} {A : Nat → Prop} (hP : va_P D cl (s_w dA ad lo n m) H) (hD : va_D A (s_w dA ad lo n m)) (hP1 : va_P D cl (s_w dA ad lo' n' m1) H1) (h1 : lo ≤ lo') (h2 : lo' + n' ≤ lo + n)
    (hk : ∀ q : Nat, q < H.size → ¬ s_A ad lo' n' H.size q → H1[q]? = H[q]?) : va_P D cl (s_w dA ad lo n (s_mix lo' n' m1 m)) H1 := fun k q hq => by
  obtain ⟨hk', rfl⟩ := s_at' hq
  by_cases hin : lo' ≤ lo + k ∧ lo + k < lo' + n'
  · have h3 := hP1 _ _ (s_at (m := m1) (dA := dA) (ad := ad) hin)
    rw [s_ent_c (m := m1) (m' := s_mix lo' n' m1 m) _ (if_pos hin) (if_pos hin)]
    exact h3
  · have h3 := hP _ _ (s_at (m := m) (dA := dA) (ad := ad) (lo := lo) (n := n) (a := lo + k) ⟨by omega, by omega⟩)
    rw [s_ent_c (m := m) (m' := s_mix lo' n' m1 m) _ (if_neg hin) (if_neg hin)]
    refine h3.kept (hk _ h3.lt (fun hA => ?_))
    rcases hA with ⟨a, ha1, ha2, e9⟩ | hA
    · have := s_inj hD (a := lo + k) (b := a) ⟨by omega, by omega⟩ ⟨by omega, by omega⟩ e9
      omega
    · exact absurd h3.lt (by omega)
def s_bf {α β : Type} (lo n : Nat) (x : Option (sR α)) (m0 : sM) (k : α → sM → Option (sR β)) : Option (sR β) := match x with
  | some (.inl r, m) => k r (s_mix lo n m m0)
  | _ => none
def sCL (ad : Nat → Nat) (xs : Nat → Int32) (L scr : Nat) (own : String) (cc : ByteArray) (nL : Nat) (Ts : List Cond) (res : sR Int32) (V : sV) : Prop :=
  ∃ (p : Program) (l : Launch) (e : Env) (s : State) (mi : MethodId) (args : Array Value) (below : List Frame) (meth : Method) (c : Code) (dC : Nat → ClassId) (dI : Nat → Nat → Nat) (dA : Nat → ClassId) (A : Nat → Prop),
    p.tables.exec = Jvm.exec ∧ c.code = cc ∧ c.maxLocals = nL ∧ s.vm.findClass own = some mi.cls ∧ (∀ w ∈ Ts, w.before args s = true) ∧ meth.sig.returnType = ret ∧ meth.locks = false ∧ l.stackTraces = false ∧ args = #[Value.ref scr] ∧
    va_K (dC, dI) vwCl (s_tys dA) s ∧ va_X scr L xs s s.heap ∧ scr < s.heap.size ∧ A = (fun q : Nat => s.heap.size ≤ q) ∧ s_E A s ∧
    V = fun b pc lv st m => ∀ (H : Heap) (locs : List Loc) (ls : Array Slot) (cells slots : Nat), cells + b ≤ 601024 → slots + 6 * b ≤ 7293034 → va_P (dC, dI) vwCl (s_w dA ad 0 139 m) H → va_D A (s_w dA ad 0 139 m) → va_S A s.heap H locs → lv_has ls nL lv →
      W p l e room_1 s mi args below meth c H locs cells slots (lw_Z below #[Value.ref scr] s) (F0 mi pc ls st)
theorem l_iconst {ad : Nat → Nat} {xs : Nat → Int32} {L scr : Nat} {own : String} {cc : ByteArray} {nL : Nat} {Ts : List Cond} {res : sR Int32} {V : sV} (C : sCL ad xs L scr own cc nL Ts res V) {b pc : Nat} {lv : List (Nat × Value)} {st : List Value} {m : sM} {i : Int} {v : Int32} (hd : decode cc pc = .ok (.iconst i, 1)) (hv : Int32.ofInt i = v) (k : V b (pc + 1) lv (.int v :: st) m) : V b pc lv (st) m := by
  obtain ⟨p, l, e, s, mi, args, below, meth, c, dC, dI, dA, A, hx, hb, hml, hown, hts, hr, hlocks, hst, hargs, hK, hX, hbl, hAe, hE, rfl⟩ := C
  intro H locs ls cells slots hc hs hP hD hS hl
  exact lv_iconst hx hb hd hv (k H locs ls cells slots hc hs hP hD hS hl)
theorem l_bipush {ad : Nat → Nat} {xs : Nat → Int32} {L scr : Nat} {own : String} {cc : ByteArray} {nL : Nat} {Ts : List Cond} {res : sR Int32} {V : sV} (C : sCL ad xs L scr own cc nL Ts res V) {b pc : Nat} {lv : List (Nat × Value)} {st : List Value} {m : sM} {i : Int} {v : Int32} (hd : decode cc pc = .ok (.bipush i, 2)) (hv : (Int8.ofInt i).toInt32 = v) (k : V b (pc + 2) lv (.int v :: st) m) : V b pc lv (st) m := by
  obtain ⟨p, l, e, s, mi, args, below, meth, c, dC, dI, dA, A, hx, hb, hml, hown, hts, hr, hlocks, hst, hargs, hK, hX, hbl, hAe, hE, rfl⟩ := C
  intro H locs ls cells slots hc hs hP hD hS hl
  exact lv_bipush hx hb hd hv (k H locs ls cells slots hc hs hP hD hS hl)
theorem l_sipush {ad : Nat → Nat} {xs : Nat → Int32} {L scr : Nat} {own : String} {cc : ByteArray} {nL : Nat} {Ts : List Cond} {res : sR Int32} {V : sV} (C : sCL ad xs L scr own cc nL Ts res V) {b pc : Nat} {lv : List (Nat × Value)} {st : List Value} {m : sM} {i : Int} {v : Int32} (hd : decode cc pc = .ok (.sipush i, 3)) (hv : (Int16.ofInt i).toInt32 = v) (k : V b (pc + 3) lv (.int v :: st) m) : V b pc lv (st) m := by
  obtain ⟨p, l, e, s, mi, args, below, meth, c, dC, dI, dA, A, hx, hb, hml, hown, hts, hr, hlocks, hst, hargs, hK, hX, hbl, hAe, hE, rfl⟩ := C
  intro H locs ls cells slots hc hs hP hD hS hl
  exact lv_sipush hx hb hd hv (k H locs ls cells slots hc hs hP hD hS hl)
theorem l_lconst {ad : Nat → Nat} {xs : Nat → Int32} {L scr : Nat} {own : String} {cc : ByteArray} {nL : Nat} {Ts : List Cond} {res : sR Int32} {V : sV} (C : sCL ad xs L scr own cc nL Ts res V) {b pc : Nat} {lv : List (Nat × Value)} {st : List Value} {m : sM} {i : Fin 2} {v : Int64} (hd : decode cc pc = .ok (.lconst i, 1)) (hv : Int64.ofNat (i : Nat) = v) (k : V b (pc + 1) lv (.long v :: st) m) : V b pc lv (st) m := by
  obtain ⟨p, l, e, s, mi, args, below, meth, c, dC, dI, dA, A, hx, hb, hml, hown, hts, hr, hlocks, hst, hargs, hK, hX, hbl, hAe, hE, rfl⟩ := C
  intro H locs ls cells slots hc hs hP hD hS hl
  exact lv_lconst hx hb hd hv (k H locs ls cells slots hc hs hP hD hS hl)
theorem l_iload_n {ad : Nat → Nat} {xs : Nat → Int32} {L scr : Nat} {own : String} {cc : ByteArray} {nL : Nat} {Ts : List Cond} {res : sR Int32} {V : sV} (C : sCL ad xs L scr own cc nL Ts res V) {b pc : Nat} {lv : List (Nat × Value)} {st : List Value} {m : sM} {q : Fin 4} {i : Nat} {x : Int32} (hd : decode cc pc = .ok (.iload_n q, 1)) (hi : (q : Nat) = i) (kk : Nat) (hv : lv[kk]? = some (i, .int x)) (k : V b (pc + 1) lv (.int x :: st) m) : V b pc lv st m := by
  obtain ⟨p, l, e, s, mi, args, below, meth, c, dC, dI, dA, A, hx, hb, hml, hown, hts, hr, hlocks, hst, hargs, hK, hX, hbl, hAe, hE, rfl⟩ := C
  intro H locs ls cells slots hc hs hP hD hS hl
  exact lv_iload_n hx hb hd hi (lv_at hl kk hv) (k H locs ls cells slots hc hs hP hD hS hl)
theorem l_iload {ad : Nat → Nat} {xs : Nat → Int32} {L scr : Nat} {own : String} {cc : ByteArray} {nL : Nat} {Ts : List Cond} {res : sR Int32} {V : sV} (C : sCL ad xs L scr own cc nL Ts res V) {b pc : Nat} {lv : List (Nat × Value)} {st : List Value} {m : sM} {i : Nat} {x : Int32} (hd : decode cc pc = .ok (.iload i, 2)) (kk : Nat) (hv : lv[kk]? = some (i, .int x)) (k : V b (pc + 2) lv (.int x :: st) m) : V b pc lv st m := by
  obtain ⟨p, l, e, s, mi, args, below, meth, c, dC, dI, dA, A, hx, hb, hml, hown, hts, hr, hlocks, hst, hargs, hK, hX, hbl, hAe, hE, rfl⟩ := C
  intro H locs ls cells slots hc hs hP hD hS hl
  exact lv_iload hx hb hd (lv_at hl kk hv) (k H locs ls cells slots hc hs hP hD hS hl)
theorem l_aload_n {ad : Nat → Nat} {xs : Nat → Int32} {L scr : Nat} {own : String} {cc : ByteArray} {nL : Nat} {Ts : List Cond} {res : sR Int32} {V : sV} (C : sCL ad xs L scr own cc nL Ts res V) {b pc : Nat} {lv : List (Nat × Value)} {st : List Value} {m : sM} {q : Fin 4} {i : Nat} {x : Nat} (hd : decode cc pc = .ok (.aload_n q, 1)) (hi : (q : Nat) = i) (kk : Nat) (hv : lv[kk]? = some (i, .ref x)) (k : V b (pc + 1) lv (.ref x :: st) m) : V b pc lv st m := by
  obtain ⟨p, l, e, s, mi, args, below, meth, c, dC, dI, dA, A, hx, hb, hml, hown, hts, hr, hlocks, hst, hargs, hK, hX, hbl, hAe, hE, rfl⟩ := C
  intro H locs ls cells slots hc hs hP hD hS hl
  exact lv_aload_n hx hb hd hi (lv_at hl kk hv) (k H locs ls cells slots hc hs hP hD hS hl)
theorem l_aload {ad : Nat → Nat} {xs : Nat → Int32} {L scr : Nat} {own : String} {cc : ByteArray} {nL : Nat} {Ts : List Cond} {res : sR Int32} {V : sV} (C : sCL ad xs L scr own cc nL Ts res V) {b pc : Nat} {lv : List (Nat × Value)} {st : List Value} {m : sM} {i : Nat} {x : Nat} (hd : decode cc pc = .ok (.aload i, 2)) (kk : Nat) (hv : lv[kk]? = some (i, .ref x)) (k : V b (pc + 2) lv (.ref x :: st) m) : V b pc lv st m := by
  obtain ⟨p, l, e, s, mi, args, below, meth, c, dC, dI, dA, A, hx, hb, hml, hown, hts, hr, hlocks, hst, hargs, hK, hX, hbl, hAe, hE, rfl⟩ := C
  intro H locs ls cells slots hc hs hP hD hS hl
  exact lv_aload hx hb hd (lv_at hl kk hv) (k H locs ls cells slots hc hs hP hD hS hl)
theorem l_istore_n {ad : Nat → Nat} {xs : Nat → Int32} {L scr : Nat} {own : String} {cc : ByteArray} {nL : Nat} {Ts : List Cond} {res : sR Int32} {V : sV} (C : sCL ad xs L scr own cc nL Ts res V) {b pc : Nat} {lv : List (Nat × Value)} {st : List Value} {m : sM} {q : Fin 4} {i : Nat} {x : Int32} {lv' : List (Nat × Value)} (hd : decode cc pc = .ok (.istore_n q, 1)) (hi : (q : Nat) = i) (hn : i < nL) (hv : (i, Value.int x) :: lv.filter (fun q => !(q.1 == i) && !(q.1 + 1 == i && q.2.category == 2)) = lv') (k : V b (pc + 1) lv' st m) : V b pc lv (.int x :: st) m := by
  obtain ⟨p, l, e, s, mi, args, below, meth, c, dC, dI, dA, A, hx, hb, hml, hown, hts, hr, hlocks, hst, hargs, hK, hX, hbl, hAe, hE, rfl⟩ := C
  intro H locs ls cells slots hc hs hP hD hS hl
  exact lv_istore_n hx hb hd hi hl hn hv (fun ls hl => k H locs ls cells slots hc hs hP hD hS hl)
theorem l_istore {ad : Nat → Nat} {xs : Nat → Int32} {L scr : Nat} {own : String} {cc : ByteArray} {nL : Nat} {Ts : List Cond} {res : sR Int32} {V : sV} (C : sCL ad xs L scr own cc nL Ts res V) {b pc : Nat} {lv : List (Nat × Value)} {st : List Value} {m : sM} {i : Nat} {x : Int32} {lv' : List (Nat × Value)} (hd : decode cc pc = .ok (.istore i, 2)) (hn : i < nL) (hv : (i, Value.int x) :: lv.filter (fun q => !(q.1 == i) && !(q.1 + 1 == i && q.2.category == 2)) = lv') (k : V b (pc + 2) lv' st m) : V b pc lv (.int x :: st) m := by
  obtain ⟨p, l, e, s, mi, args, below, meth, c, dC, dI, dA, A, hx, hb, hml, hown, hts, hr, hlocks, hst, hargs, hK, hX, hbl, hAe, hE, rfl⟩ := C
  intro H locs ls cells slots hc hs hP hD hS hl
  exact lv_istore hx hb hd hl hn hv (fun ls hl => k H locs ls cells slots hc hs hP hD hS hl)
theorem l_iinc {ad : Nat → Nat} {xs : Nat → Int32} {L scr : Nat} {own : String} {cc : ByteArray} {nL : Nat} {Ts : List Cond} {res : sR Int32} {V : sV} (C : sCL ad xs L scr own cc nL Ts res V) {b pc : Nat} {lv : List (Nat × Value)} {st : List Value} {m : sM} {i : Nat} {z : Int} {x v : Int32} {lv' : List (Nat × Value)} (hd : decode cc pc = .ok (.iinc i z, 3)) (kk : Nat) (hk : lv[kk]? = some (i, .int x)) (hz : x + Int32.ofInt z = v) (hn : i < nL) (hv : (i, Value.int v) :: lv.filter (fun q => !(q.1 == i) && !(q.1 + 1 == i && q.2.category == 2)) = lv') (k : V b (pc + 3) lv' st m) : V b pc lv st m := by
  obtain ⟨p, l, e, s, mi, args, below, meth, c, dC, dI, dA, A, hx, hb, hml, hown, hts, hr, hlocks, hst, hargs, hK, hX, hbl, hAe, hE, rfl⟩ := C
  intro H locs ls cells slots hc hs hP hD hS hl
  exact lv_iinc hx hb hd hl hk hz hn hv (fun ls hl => k H locs ls cells slots hc hs hP hD hS hl)
theorem l_iadd {ad : Nat → Nat} {xs : Nat → Int32} {L scr : Nat} {own : String} {cc : ByteArray} {nL : Nat} {Ts : List Cond} {res : sR Int32} {V : sV} (C : sCL ad xs L scr own cc nL Ts res V) {b pc : Nat} {lv : List (Nat × Value)} {st : List Value} {m : sM} {x y : Int32} (hd : decode cc pc = .ok (.iadd, 1))  (k : V b (pc + 1) lv (.int (x + y) :: st) m) : V b pc lv (.int y :: .int x :: st) m := by
  obtain ⟨p, l, e, s, mi, args, below, meth, c, dC, dI, dA, A, hx, hb, hml, hown, hts, hr, hlocks, hst, hargs, hK, hX, hbl, hAe, hE, rfl⟩ := C
  intro H locs ls cells slots hc hs hP hD hS hl
  exact lv_iadd hx hb hd  (k H locs ls cells slots hc hs hP hD hS hl)
theorem l_isub {ad : Nat → Nat} {xs : Nat → Int32} {L scr : Nat} {own : String} {cc : ByteArray} {nL : Nat} {Ts : List Cond} {res : sR Int32} {V : sV} (C : sCL ad xs L scr own cc nL Ts res V) {b pc : Nat} {lv : List (Nat × Value)} {st : List Value} {m : sM} {x y : Int32} (hd : decode cc pc = .ok (.isub, 1))  (k : V b (pc + 1) lv (.int (x - y) :: st) m) : V b pc lv (.int y :: .int x :: st) m := by
  obtain ⟨p, l, e, s, mi, args, below, meth, c, dC, dI, dA, A, hx, hb, hml, hown, hts, hr, hlocks, hst, hargs, hK, hX, hbl, hAe, hE, rfl⟩ := C
  intro H locs ls cells slots hc hs hP hD hS hl
  exact lv_isub hx hb hd  (k H locs ls cells slots hc hs hP hD hS hl)
theorem l_iand {ad : Nat → Nat} {xs : Nat → Int32} {L scr : Nat} {own : String} {cc : ByteArray} {nL : Nat} {Ts : List Cond} {res : sR Int32} {V : sV} (C : sCL ad xs L scr own cc nL Ts res V) {b pc : Nat} {lv : List (Nat × Value)} {st : List Value} {m : sM} {x y : Int32} (hd : decode cc pc = .ok (.iand, 1))  (k : V b (pc + 1) lv (.int (x &&& y) :: st) m) : V b pc lv (.int y :: .int x :: st) m := by
  obtain ⟨p, l, e, s, mi, args, below, meth, c, dC, dI, dA, A, hx, hb, hml, hown, hts, hr, hlocks, hst, hargs, hK, hX, hbl, hAe, hE, rfl⟩ := C
  intro H locs ls cells slots hc hs hP hD hS hl
  exact lv_iand hx hb hd  (k H locs ls cells slots hc hs hP hD hS hl)
theorem l_i2l {ad : Nat → Nat} {xs : Nat → Int32} {L scr : Nat} {own : String} {cc : ByteArray} {nL : Nat} {Ts : List Cond} {res : sR Int32} {V : sV} (C : sCL ad xs L scr own cc nL Ts res V) {b pc : Nat} {lv : List (Nat × Value)} {st : List Value} {m : sM} {x : Int32} (hd : decode cc pc = .ok (.i2l, 1))  (k : V b (pc + 1) lv (.long x.toInt64 :: st) m) : V b pc lv (.int x :: st) m := by
  obtain ⟨p, l, e, s, mi, args, below, meth, c, dC, dI, dA, A, hx, hb, hml, hown, hts, hr, hlocks, hst, hargs, hK, hX, hbl, hAe, hE, rfl⟩ := C
  intro H locs ls cells slots hc hs hP hD hS hl
  exact lv_i2l hx hb hd rfl (k H locs ls cells slots hc hs hP hD hS hl)
theorem l_i2c {ad : Nat → Nat} {xs : Nat → Int32} {L scr : Nat} {own : String} {cc : ByteArray} {nL : Nat} {Ts : List Cond} {res : sR Int32} {V : sV} (C : sCL ad xs L scr own cc nL Ts res V) {b pc : Nat} {lv : List (Nat × Value)} {st : List Value} {m : sM} {x : Int32} (hd : decode cc pc = .ok (.i2c, 1))  (k : V b (pc + 1) lv (.int (s_i2c x) :: st) m) : V b pc lv (.int x :: st) m := by
  obtain ⟨p, l, e, s, mi, args, below, meth, c, dC, dI, dA, A, hx, hb, hml, hown, hts, hr, hlocks, hst, hargs, hK, hX, hbl, hAe, hE, rfl⟩ := C
  intro H locs ls cells slots hc hs hP hD hS hl
  exact lv_i2c hx hb hd rfl (k H locs ls cells slots hc hs hP hD hS hl)
theorem l_lcmp {ad : Nat → Nat} {xs : Nat → Int32} {L scr : Nat} {own : String} {cc : ByteArray} {nL : Nat} {Ts : List Cond} {res : sR Int32} {V : sV} (C : sCL ad xs L scr own cc nL Ts res V) {b pc : Nat} {lv : List (Nat × Value)} {st : List Value} {m : sM} {x y : Int64} (hd : decode cc pc = .ok (.lcmp, 1))  (k : V b (pc + 1) lv (.int (lg_cmp x y) :: st) m) : V b pc lv (.long y :: .long x :: st) m := by
  obtain ⟨p, l, e, s, mi, args, below, meth, c, dC, dI, dA, A, hx, hb, hml, hown, hts, hr, hlocks, hst, hargs, hK, hX, hbl, hAe, hE, rfl⟩ := C
  intro H locs ls cells slots hc hs hP hD hS hl
  exact W.lcmp hx hb hd  (k H locs ls cells slots hc hs hP hD hS hl)
theorem l_goto {ad : Nat → Nat} {xs : Nat → Int32} {L scr : Nat} {own : String} {cc : ByteArray} {nL : Nat} {Ts : List Cond} {res : sR Int32} {V : sV} (C : sCL ad xs L scr own cc nL Ts res V) {b pc : Nat} {lv : List (Nat × Value)} {st : List Value} {m : sM} {off : Int} {tgt : Nat} (hd : decode cc pc = .ok (.goto off, 3)) (ht : (pc : Int) + off = (tgt : Int)) (k : V b tgt lv st m) : V b pc lv st m := by
  obtain ⟨p, l, e, s, mi, args, below, meth, c, dC, dI, dA, A, hx, hb, hml, hown, hts, hr, hlocks, hst, hargs, hK, hX, hbl, hAe, hE, rfl⟩ := C
  intro H locs ls cells slots hc hs hP hD hS hl
  exact lv_goto hx hb hd ht (k H locs ls cells slots hc hs hP hD hS hl)
theorem l_if_eq {ad : Nat → Nat} {xs : Nat → Int32} {L scr : Nat} {own : String} {cc : ByteArray} {nL : Nat} {Ts : List Cond} {res : sR Int32} {V : sV} (C : sCL ad xs L scr own cc nL Ts res V) {b pc : Nat} {lv : List (Nat × Value)} {st : List Value} {m : sM} {x : Int32} {off : Int} {tgt : Nat} {i : Decidable (x = 0)} {X Y : Option (sR Int32)} (hd : decode cc pc = .ok (.ifCond .eq off, 3)) (ht : (pc : Int) + off = (tgt : Int)) (h : @ite _ (x = 0) i X Y = some res) (kt : x = 0 → X = some res → V b tgt lv st m) (kf : ¬ x = 0 → Y = some res → V b (pc + 3) lv st m) : V b pc lv (.int x :: st) m := by
  obtain ⟨p, l, e, s, mi, args, below, meth, c, dC, dI, dA, A, hx, hb, hml, hown, hts, hr, hlocks, hst, hargs, hK, hX, hbl, hAe, hE, rfl⟩ := C
  intro H locs ls cells slots hc hs hP hD hS hl
  exact lv_if_eq hx hb hd ht (fun hq => kt hq (s_pos hq h) H locs ls cells slots hc hs hP hD hS hl) (fun hq => kf hq (s_neg hq h) H locs ls cells slots hc hs hP hD hS hl)
theorem l_if_ne {ad : Nat → Nat} {xs : Nat → Int32} {L scr : Nat} {own : String} {cc : ByteArray} {nL : Nat} {Ts : List Cond} {res : sR Int32} {V : sV} (C : sCL ad xs L scr own cc nL Ts res V) {b pc : Nat} {lv : List (Nat × Value)} {st : List Value} {m : sM} {x : Int32} {off : Int} {tgt : Nat} {i : Decidable (x = 0)} {X Y : Option (sR Int32)} (hd : decode cc pc = .ok (.ifCond .ne off, 3)) (ht : (pc : Int) + off = (tgt : Int)) (h : @ite _ (x = 0) i X Y = some res) (kt : x = 0 → X = some res → V b (pc + 3) lv st m) (kf : ¬ x = 0 → Y = some res → V b tgt lv st m) : V b pc lv (.int x :: st) m := by
  obtain ⟨p, l, e, s, mi, args, below, meth, c, dC, dI, dA, A, hx, hb, hml, hown, hts, hr, hlocks, hst, hargs, hK, hX, hbl, hAe, hE, rfl⟩ := C
  intro H locs ls cells slots hc hs hP hD hS hl
  exact lv_if_ne hx hb hd ht (fun hq => kf hq (s_neg hq h) H locs ls cells slots hc hs hP hD hS hl) (fun hq => kt hq (s_pos hq h) H locs ls cells slots hc hs hP hD hS hl)
theorem l_icmp_eq {ad : Nat → Nat} {xs : Nat → Int32} {L scr : Nat} {own : String} {cc : ByteArray} {nL : Nat} {Ts : List Cond} {res : sR Int32} {V : sV} (C : sCL ad xs L scr own cc nL Ts res V) {b pc : Nat} {lv : List (Nat × Value)} {st : List Value} {m : sM} {x y : Int32} {off : Int} {tgt : Nat} {i : Decidable (x = y)} {X Y : Option (sR Int32)} (hd : decode cc pc = .ok (.if_icmp .eq off, 3)) (ht : (pc : Int) + off = (tgt : Int)) (h : @ite _ (x = y) i X Y = some res) (kt : x = y → X = some res → V b tgt lv st m) (kf : ¬ x = y → Y = some res → V b (pc + 3) lv st m) : V b pc lv (.int y :: .int x :: st) m := by
  obtain ⟨p, l, e, s, mi, args, below, meth, c, dC, dI, dA, A, hx, hb, hml, hown, hts, hr, hlocks, hst, hargs, hK, hX, hbl, hAe, hE, rfl⟩ := C
  intro H locs ls cells slots hc hs hP hD hS hl
  exact lv_icmp_eq hx hb hd ht (fun hq => kt hq (s_pos hq h) H locs ls cells slots hc hs hP hD hS hl) (fun hq => kf hq (s_neg hq h) H locs ls cells slots hc hs hP hD hS hl)
theorem l_icmp_ne {ad : Nat → Nat} {xs : Nat → Int32} {L scr : Nat} {own : String} {cc : ByteArray} {nL : Nat} {Ts : List Cond} {res : sR Int32} {V : sV} (C : sCL ad xs L scr own cc nL Ts res V) {b pc : Nat} {lv : List (Nat × Value)} {st : List Value} {m : sM} {x y : Int32} {off : Int} {tgt : Nat} {i : Decidable (x = y)} {X Y : Option (sR Int32)} (hd : decode cc pc = .ok (.if_icmp .ne off, 3)) (ht : (pc : Int) + off = (tgt : Int)) (h : @ite _ (x = y) i X Y = some res) (kt : x = y → X = some res → V b (pc + 3) lv st m) (kf : ¬ x = y → Y = some res → V b tgt lv st m) : V b pc lv (.int y :: .int x :: st) m := by
  obtain ⟨p, l, e, s, mi, args, below, meth, c, dC, dI, dA, A, hx, hb, hml, hown, hts, hr, hlocks, hst, hargs, hK, hX, hbl, hAe, hE, rfl⟩ := C
  intro H locs ls cells slots hc hs hP hD hS hl
  exact lv_icmp_ne hx hb hd ht (fun hq => kf hq (s_neg hq h) H locs ls cells slots hc hs hP hD hS hl) (fun hq => kt hq (s_pos hq h) H locs ls cells slots hc hs hP hD hS hl)
theorem l_icmp_gt {ad : Nat → Nat} {xs : Nat → Int32} {L scr : Nat} {own : String} {cc : ByteArray} {nL : Nat} {Ts : List Cond} {res : sR Int32} {V : sV} (C : sCL ad xs L scr own cc nL Ts res V) {b pc : Nat} {lv : List (Nat × Value)} {st : List Value} {m : sM} {x y : Int32} {off : Int} {tgt : Nat} {i : Decidable (y < x)} {X Y : Option (sR Int32)} (hd : decode cc pc = .ok (.if_icmp .gt off, 3)) (ht : (pc : Int) + off = (tgt : Int)) (h : @ite _ (y < x) i X Y = some res) (kt : y < x → X = some res → V b tgt lv st m) (kf : ¬ y < x → Y = some res → V b (pc + 3) lv st m) : V b pc lv (.int y :: .int x :: st) m := by
  obtain ⟨p, l, e, s, mi, args, below, meth, c, dC, dI, dA, A, hx, hb, hml, hown, hts, hr, hlocks, hst, hargs, hK, hX, hbl, hAe, hE, rfl⟩ := C
  intro H locs ls cells slots hc hs hP hD hS hl
  exact lv_icmp_gt hx hb hd ht (fun hq => kt hq (s_pos hq h) H locs ls cells slots hc hs hP hD hS hl) (fun hq => kf hq (s_neg hq h) H locs ls cells slots hc hs hP hD hS hl)
theorem l_tabIn {ad : Nat → Nat} {xs : Nat → Int32} {L scr : Nat} {own : String} {cc : ByteArray} {nL : Nat} {Ts : List Cond} {res : sR Int32} {V : sV} (C : sCL ad xs L scr own cc nL Ts res V) {b pc : Nat} {lv : List (Nat × Value)} {st : List Value} {m : sM} {dflt lo9 hi9 : Int} {offs : Array Int} {len : Nat} {x : Int32} {off : Int} {tgt : Nat} (hd : decode cc pc = .ok (.tableswitch dflt lo9 hi9 offs, len)) (h1 : ¬ x.toInt < lo9) (h2 : ¬ hi9 < x.toInt) (ho : offs[(x.toInt - lo9).toNat]? = some off) (ht : (pc : Int) + off = (tgt : Int)) (k : V b tgt lv st m) : V b pc lv (.int x :: st) m := by
  obtain ⟨p, l, e, s, mi, args, below, meth, c, dC, dI, dA, A, hx, hb, hml, hown, hts, hr, hlocks, hst, hargs, hK, hX, hbl, hAe, hE, rfl⟩ := C
  intro H locs ls cells slots hc hs hP hD hS hl
  exact lv_tableIn hx hb hd h1 h2 ho ht (k H locs ls cells slots hc hs hP hD hS hl)
theorem l_tabOut {ad : Nat → Nat} {xs : Nat → Int32} {L scr : Nat} {own : String} {cc : ByteArray} {nL : Nat} {Ts : List Cond} {res : sR Int32} {V : sV} (C : sCL ad xs L scr own cc nL Ts res V) {b pc : Nat} {lv : List (Nat × Value)} {st : List Value} {m : sM} {dflt lo9 hi9 : Int} {offs : Array Int} {len : Nat} {x : Int32} {tgt : Nat} (hd : decode cc pc = .ok (.tableswitch dflt lo9 hi9 offs, len)) (h1 : x.toInt < lo9 ∨ hi9 < x.toInt) (ht : (pc : Int) + dflt = (tgt : Int)) (k : V b tgt lv st m) : V b pc lv (.int x :: st) m := by
  obtain ⟨p, l, e, s, mi, args, below, meth, c, dC, dI, dA, A, hx, hb, hml, hown, hts, hr, hlocks, hst, hargs, hK, hX, hbl, hAe, hE, rfl⟩ := C
  intro H locs ls cells slots hc hs hP hD hS hl
  exact lv_tableOut hx hb hd h1 ht (k H locs ls cells slots hc hs hP hD hS hl)
theorem l_sub {ad : Nat → Nat} {xs : Nat → Int32} {L scr : Nat} {own : String} {cc : ByteArray} {nL : Nat} {Ts : List Cond} {res : sR Int32} {V : sV} (C : sCL ad xs L scr own cc nL Ts res V) {b pc : Nat} {lv : List (Nat × Value)} {st : List Value} {m : sM} {lv' : List (Nat × Value)} (ks : List Nat) (hv : lv_pick lv ks = lv') (k : V b pc lv' st m) : V b pc lv st m := by
  obtain ⟨p, l, e, s, mi, args, below, meth, c, dC, dI, dA, A, hx, hb, hml, hown, hts, hr, hlocks, hst, hargs, hK, hX, hbl, hAe, hE, rfl⟩ := C
  intro H locs ls cells slots hc hs hP hD hS hl
  exact k H locs ls cells slots hc hs hP hD hS (lv_sub hl ks hv)
theorem l_less {ad : Nat → Nat} {xs : Nat → Int32} {L scr : Nat} {own : String} {cc : ByteArray} {nL : Nat} {Ts : List Cond} {res : sR Int32} {V : sV} (C : sCL ad xs L scr own cc nL Ts res V) {b pc : Nat} {lv : List (Nat × Value)} {st : List Value} {m : sM} {b' : Nat} (hle : b' ≤ b) (k : V b' pc lv st m) : V b pc lv st m := by
  obtain ⟨p, l, e, s, mi, args, below, meth, c, dC, dI, dA, A, hx, hb, hml, hown, hts, hr, hlocks, hst, hargs, hK, hX, hbl, hAe, hE, rfl⟩ := C
  intro H locs ls cells slots hc hs hP hD hS hl
  exact k H locs ls cells slots (by omega) (by omega) hP hD hS hl
theorem l_lald {ad : Nat → Nat} {xs : Nat → Int32} {L scr : Nat} {own : String} {cc : ByteArray} {nL : Nat} {Ts : List Cond} {res : sR Int32} {V : sV} (C : sCL ad xs L scr own cc nL Ts res V) {b pc : Nat} {lv : List (Nat × Value)} {st : List Value} {m : sM} {a N : Nat} {ix : Int32} {X : Nat → Option (sR Int32)} (hd : decode cc pc = .ok (.laload, 1)) (ha : 0 ≤ a ∧ a < 0 + 139) (hL : sLay a = .inr (7, N, none)) (h : s_ix ix N X = some res) (k : ∀ j, j < N → X j = some res → V b (pc + 1) lv (.long (m.2 a j) :: st) m) : V b pc lv (.int ix :: .ref (ad a) :: st) m := by
  obtain ⟨p, l, e, s, mi, args, below, meth, c, dC, dI, dA, A, hx, hb, hml, hown, hts, hr, hlocks, hst, hargs, hK, hX, hbl, hAe, hE, rfl⟩ := C
  intro H locs ls cells slots hc hs hP hD hS hl
  obtain ⟨hin, h⟩ := s_gd_of h
  exact va_lald (D := (dC, dI)) hx hb hK hP (a - 0) 7 (cA := dA 7) (n := N) (f := m.2 a) (by rw [s_at ha, hL]; rfl) rfl hin hd (k _ (Nat.not_le.mp fun q => hin (Or.inr q)) h H locs ls cells slots hc hs hP hD hS hl)
theorem l_alen {ad : Nat → Nat} {xs : Nat → Int32} {L scr : Nat} {own : String} {cc : ByteArray} {nL : Nat} {Ts : List Cond} {res : sR Int32} {V : sV} (C : sCL ad xs L scr own cc nL Ts res V) {b pc : Nat} {lv : List (Nat × Value)} {st : List Value} {m : sM} (hd : decode cc pc = .ok (.arraylength, 1)) (k : V b (pc + 1) lv (.int (nI L) :: st) m) : V b pc lv (.ref scr :: st) m := by
  obtain ⟨p, l, e, s, mi, args, below, meth, c, dC, dI, dA, A, hx, hb, hml, hown, hts, hr, hlocks, hst, hargs, hK, hX, hbl, hAe, hE, rfl⟩ := C
  intro H locs ls cells slots hc hs hP hD hS hl
  subst hAe
  exact va_slen hx hb hX hbl (Nat.not_le.mpr hbl) hS hd (k H locs ls cells slots hc hs hP hD hS hl)
theorem l_iald {ad : Nat → Nat} {xs : Nat → Int32} {L scr : Nat} {own : String} {cc : ByteArray} {nL : Nat} {Ts : List Cond} {res : sR Int32} {V : sV} (C : sCL ad xs L scr own cc nL Ts res V) {b pc : Nat} {lv : List (Nat × Value)} {st : List Value} {m : sM} {ix : Int32} {X : Nat → Option (sR Int32)} (hd : decode cc pc = .ok (.iaload, 1)) (h : s_ix ix L X = some res) (k : ∀ j, j < L → X j = some res → V b (pc + 1) lv (.int (xs j) :: st) m) : V b pc lv (.int ix :: .ref scr :: st) m := by
  obtain ⟨p, l, e, s, mi, args, below, meth, c, dC, dI, dA, A, hx, hb, hml, hown, hts, hr, hlocks, hst, hargs, hK, hX, hbl, hAe, hE, rfl⟩ := C
  intro H locs ls cells slots hc hs hP hD hS hl
  obtain ⟨hin, h⟩ := s_gd_of h
  subst hAe
  exact va_sld hx hb hX hbl (Nat.not_le.mpr hbl) hS hin hd (k _ (Nat.not_le.mp fun q => hin (Or.inr q)) h H locs ls cells slots hc hs hP hD hS hl)
theorem l_iret {ad : Nat → Nat} {xs : Nat → Int32} {L scr : Nat} {own : String} {cc : ByteArray} {nL : Nat} {Ts : List Cond} {res : sR Int32} {V : sV} (C : sCL ad xs L scr own cc nL Ts res V) {b pc : Nat} {lv : List (Nat × Value)} {m : sM} {x : Int32} {m9 : sM} (hcc : cc = code) (hd : decode cc pc = .ok (.ireturn, 1)) (h : some ((.inl x, m) : sR Int32) = some res) (hres : res = (.inl 1, m9)) : V b pc lv [.int x] m := by
  obtain ⟨p, l, e, s, mi, args, below, meth, c, dC, dI, dA, A, hx, hb, hml, hown, hts, hr, hlocks, hst, hargs, hK, hX, hbl, hAe, hE, rfl⟩ := C
  intro H locs ls cells slots hc hs hP hD hS hl
  subst hcc
  subst hargs
  rw [hres] at h
  have hx1 : x = 1 := Sum.inl.inj (congrArg Prod.fst (Option.some.inj h))
  subst hx1
  refine va_forget (fun q hq => by have := hS.2.2 q hq; rw [hAe] at this; exact this) ?_
  refine W.widen (k := 601024) (n := 7293034) (by omega) (by omega) ?_
  exact lw_ret hx hb hr hlocks hd
theorem l_callV {ad : Nat → Nat} {xs : Nat → Int32} {L scr : Nat} {own : String} {cc : ByteArray} {nL : Nat} {Ts : List Cond} {res : sR Int32} {V : sV} (C : sCL ad xs L scr own cc nL Ts res V) {b pc : Nat} {lv : List (Nat × Value)} {st : List Value} {m : sM} {σ : Type} {enc' : σ → Option Value} {lo' n' : Nat} {y' : MethodName} {ws' w' : List Cond} {fr' lc' k9 : Nat} {f' : sM → Option (sR σ)} {mk' : (Nat → Nat) → List Value} {X : σ → sM → Option (sR Int32)} {index nn maxL' : Nat} {cc' : ByteArray} {ret' : Option FieldType} {stk As : List Value} {C' : String} {ci N a : Nat} {T : u_T} {fs : List (Nat × Nat × Nat)} (con : s_Con enc' lo' n' y' ws' fr' lc' k9 f' mk') (hlo : lo' + n' ≤ 139) (hd : decode cc pc = .ok (.invokevirtual index, 3)) (hG : GoodIn Ts (wsV own index C' y' ws')) (hd9 : y'.cls = C' ∧ y'.cls ≠ "java/lang/invoke/MethodHandle" ∧ y'.cls ≠ "java/lang/invoke/VarHandle" ∧ (parseMethodDescriptor y'.desc).map (fun d => d.parameters.length) = some nn) (ha : 0 ≤ a ∧ a < 0 + 139) (hL : sLay a = .inl (ci, fs)) (hc9 : vwCl[ci]? = some (C', T, N)) (hmk : mk' ad = .ref (ad a) :: As) (hw : ws' = Cond.code y' cc' maxL' ret' :: w') (hR : fr' + 1 ≤ 2048 ∧ 8 + (maxL' + 11) + lc' ≤ 84000) (hnn : As.length = nn) (hsk : stk = As.reverse ++ .ref (ad a) :: st) (hcat : (st.map fun v => v.category).sum ≤ 8) (hb1 : k9 ≤ b) (h : s_bf lo' n' (f' m) m X = some res) (k : ∀ r m', X r m' = some res → V (b - k9) (pc + 3) lv ((enc' r).toList ++ st) m') : V b pc lv stk m := by
  obtain ⟨p, l, e, s, mi, args, below, meth, c, dC, dI, dA, A, hx, hb, hml, hown, hts, hr, hlocks, hst, hargs, hK, hX, hbl, hAe, hE, rfl⟩ := C
  intro H locs ls cells slots hc hs hP hD hS hl
  subst hsk
  cases hfm : f' m with
  | none => rw [hfm] at h; cases h
  | some res' =>
  have hAA : ∀ q, s_A ad lo' n' H.size q → A q := fun q hq => by
    rcases hq with ⟨a, h1, h2, rfl⟩ | hq
    · exact hD.2 _ _ (s_at (m := m) (dA := dA) (ad := ad) (lo := 0) (n := 139) (a := a) ⟨by omega, by omega⟩)
    · rw [hAe]; exact Nat.le_trans hS.1 hq
  have hcl9 : cells + k9 ≤ 601024 := by omega
  have hsl9 : slots + 6 * k9 ≤ 7293034 := by omega
  have hPc : va_P (dC, dI) vwCl (s_w dA ad lo' n' m) H := s_P_part hP (Nat.zero_le _) (by omega)
  have hbl9 : FrameBlind (s_Pc lo' n' dC dI dA ad (mk' ad) H.size m) := fun a U g mk q => by
    obtain ⟨q1, q2, q3, q4, q5, q6⟩ := q
    exact ⟨q1, q2, q3, va_K.moved (u := U) (U := U.calling g mk a) (Vm.Alike.refl U.vm) q4, q5, q6.same rfl rfl⟩
  have hpre : ∀ (av : Array Value), av = (mk' ad).toArray → ∀ U : State, U.heap = H → s.WarmedH U.vm → s_Pc lo' n' dC dI dA ad (mk' ad) H.size m av U := fun av hav U hU hW => ⟨hav, by rw [hU], by rw [hU]; exact hPc, va_K.moved hW.alike hK, s_D_part hD (Nat.zero_le _) (by omega) (fun _ _ _ => trivial), s_E.go hW hS hU hAA hE⟩
  have hrun := vx_runV (p := p) (l := l) (e := e) (R := room_1) (below := below) (meth := meth) (locs := locs) (cells := cells) (slots := slots) (As := As) (rest := st) (g := F0 mi pc ls (As.reverse ++ .ref (ad a) :: st)) ⟨hx, hb, hml, hown, hts⟩ (con l hst dC dI dA ad H.size m res' hfm) (cwV (C := C') nn hts hG hw rfl rfl hd9 hR) ⟨hbl9, va_recv hK hP hc9 (by rw [s_at ha, s_ent_obj hL]), fun U hU hW => hpre _ (by rw [hmk]) U hU hW⟩ rfl hnn hl.1 rfl (lv_room hcat) hd ⟨hcl9, hsl9⟩
  intro T hT X9
  rcases hrun T hT X9 with ⟨v, st₀, t, T', L9, h0, X', hL, e1, e2, ⟨⟨r, m', hres, hv, hPW, hDW⟩, hF⟩, hgo⟩ | ⟨q, st₀, t, T', L9, E, ce, h0, X', hL, e1, e2, ⟨m', hres, ⟨hPW, hDW⟩, hF⟩, hce, hcv, hcl, hgo⟩
  · cases hv
    obtain ⟨k1, k2, k3⟩ := vx_keep h0 e1 hS (fun q _ hq => hAA q hq) hAA hL hF
    rw [hfm, hres] at h
    have h9 : X r (s_mix lo' n' m' m) = some res := h
    obtain ⟨t2, a1, b1⟩ := k r _ h9 T'.heap (locs ++ L9) ls (cells + k9) (slots + 6 * k9) (by omega) (by omega) (s_P_mix hP hD (by rw [e1]; exact hPW) (Nat.zero_le _) (by omega) k2) (s_D_m hD) k3 hl T' rfl X'
    exact ⟨t2, hgo t2 a1, b1⟩
  · rw [hfm, hres] at h
    cases h
theorem l_callS {ad : Nat → Nat} {xs : Nat → Int32} {L scr : Nat} {own : String} {cc : ByteArray} {nL : Nat} {Ts : List Cond} {res : sR Int32} {V : sV} (C : sCL ad xs L scr own cc nL Ts res V) {b pc : Nat} {lv : List (Nat × Value)} {st : List Value} {m : sM} {σ : Type} {enc' : σ → Option Value} {lo' n' : Nat} {y' : MethodName} {ws' w' : List Cond} {fr' lc' k9 : Nat} {f' : sM → Option (sR σ)} {mk' : (Nat → Nat) → List Value} {X : σ → sM → Option (sR Int32)} {index nn maxL' : Nat} {cc' : ByteArray} {ret' : Option FieldType} {stk As : List Value} {hh : List (Nat × Nat × Nat × Nat)} (con : s_Con enc' lo' n' y' ws' fr' lc' k9 f' mk') (hlo : lo' + n' ≤ 139) (hd : decode cc pc = .ok (.invokestatic index, 3)) (hG : GoodIn Ts (va_wsS own index y' ws')) (hd9 : y'.cls ≠ "java/lang/invoke/MethodHandle" ∧ y'.cls ≠ "java/lang/invoke/VarHandle" ∧ (parseMethodDescriptor y'.desc).map (fun d => d.parameters.length) = some nn) (hmk : mk' ad = As) (hw : ws' = Cond.codeWith y' cc' maxL' ret' hh :: w') (hR : fr' + 1 ≤ 2048 ∧ 8 + (maxL' + 11) + lc' ≤ 84000) (hnn : As.length = nn) (hsk : stk = As.reverse ++ st) (hcat : (st.map fun v => v.category).sum ≤ 8) (hb1 : k9 ≤ b) (h : s_bf lo' n' (f' m) m X = some res) (k : ∀ r m', X r m' = some res → V (b - k9) (pc + 3) lv ((enc' r).toList ++ st) m') : V b pc lv stk m := by
  obtain ⟨p, l, e, s, mi, args, below, meth, c, dC, dI, dA, A, hx, hb, hml, hown, hts, hr, hlocks, hst, hargs, hK, hX, hbl, hAe, hE, rfl⟩ := C
  intro H locs ls cells slots hc hs hP hD hS hl
  subst hsk
  cases hfm : f' m with
  | none => rw [hfm] at h; cases h
  | some res' =>
  have hAA : ∀ q, s_A ad lo' n' H.size q → A q := fun q hq => by
    rcases hq with ⟨a, h1, h2, rfl⟩ | hq
    · exact hD.2 _ _ (s_at (m := m) (dA := dA) (ad := ad) (lo := 0) (n := 139) (a := a) ⟨by omega, by omega⟩)
    · rw [hAe]; exact Nat.le_trans hS.1 hq
  have hcl9 : cells + k9 ≤ 601024 := by omega
  have hsl9 : slots + 6 * k9 ≤ 7293034 := by omega
  have hPc : va_P (dC, dI) vwCl (s_w dA ad lo' n' m) H := s_P_part hP (Nat.zero_le _) (by omega)
  have hbl9 : FrameBlind (s_Pc lo' n' dC dI dA ad (mk' ad) H.size m) := fun a U g mk q => by
    obtain ⟨q1, q2, q3, q4, q5, q6⟩ := q
    exact ⟨q1, q2, q3, va_K.moved (u := U) (U := U.calling g mk a) (Vm.Alike.refl U.vm) q4, q5, q6.same rfl rfl⟩
  have hpre : ∀ (av : Array Value), av = (mk' ad).toArray → ∀ U : State, U.heap = H → s.WarmedH U.vm → s_Pc lo' n' dC dI dA ad (mk' ad) H.size m av U := fun av hav U hU hW => ⟨hav, by rw [hU], by rw [hU]; exact hPc, va_K.moved hW.alike hK, s_D_part hD (Nat.zero_le _) (by omega) (fun _ _ _ => trivial), s_E.go hW hS hU hAA hE⟩
  have hrun := vx_runSX (p := p) (l := l) (e := e) (R := room_1) (below := below) (meth := meth) (locs := locs) (cells := cells) (slots := slots) (As := As) (rest := st) (g := F0 mi pc ls (As.reverse ++ st)) ⟨hx, hb, hml, hown, hts⟩ (con l hst dC dI dA ad H.size m res' hfm) (vx_cwSW nn hts hG hw rfl rfl hd9 hR) ⟨hbl9, fun U hU hW => hpre _ (by rw [hmk]) U hU hW⟩ rfl hnn hl.1 rfl (lv_room hcat) hd ⟨hcl9, hsl9⟩
  intro T hT X9
  rcases hrun T hT X9 with ⟨v, st₀, t, T', L9, h0, X', hL, e1, e2, ⟨⟨r, m', hres, hv, hPW, hDW⟩, hF⟩, hgo⟩ | ⟨q, st₀, t, T', L9, E, ce, h0, X', hL, e1, e2, ⟨m', hres, ⟨hPW, hDW⟩, hF⟩, hce, hcv, hcl, hgo⟩
  · cases hv
    obtain ⟨k1, k2, k3⟩ := vx_keep h0 e1 hS (fun q _ hq => hAA q hq) hAA hL hF
    rw [hfm, hres] at h
    have h9 : X r (s_mix lo' n' m' m) = some res := h
    obtain ⟨t2, a1, b1⟩ := k r _ h9 T'.heap (locs ++ L9) ls (cells + k9) (slots + 6 * k9) (by omega) (by omega) (s_P_mix hP hD (by rw [e1]; exact hPW) (Nat.zero_le _) (by omega) k2) (s_D_m hD) k3 hl T' rfl X'
    exact ⟨t2, hgo t2 a1, b1⟩
  · rw [hfm, hres] at h
    cases h
theorem l_last0 {ad : Nat → Nat} : True := trivial
