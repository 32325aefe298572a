/-! CONSTRUCTORS: rows of rows; calls of methods that have a contract over the layout. -/
set_option maxRecDepth 100000 in
set_option maxHeartbeats 1000000 in
theorem n_cell_q (c : ClassId) {n : Nat} {f g : Nat → Option Nat} (h : ∀ i, i < n → f i = g i) : vp_cell c (n, .inr (.inr (.inr (.inr f)))) = vp_cell c (n, .inr (.inr (.inr (.inr g)))) := by
  rw [vp_cell_q, vp_cell_q]
  unfold arrV
  congr 2
  funext j
  exact congrArg va_rf (h j.val j.isLt)
-- remark: one cell may be told in another way
set_option maxRecDepth 100000 in
set_option maxHeartbeats 1000000 in
theorem n_P_cell {D : va_G} {cl : List vw_C} {X Y : va_W} {q : Nat} {c : ClassId} {a b : vp_A} {H : Heap} (he : vp_cell c a = vp_cell c b) (h : va_P D cl (X ++ (q, .inl (c, a)) :: Y) H) : va_P D cl (X ++ (q, .inl (c, b)) :: Y) H := by
  refine n_P_iff.mpr fun z hz => ?_
  rcases List.mem_append.mp hz with h1 | h1
  · exact n_P_iff.mp h z (List.mem_append_left _ h1)
  · rcases List.mem_cons.mp h1 with h2 | h2
    · subst h2
      have := n_P_iff.mp h (q, .inl (c, a)) (List.mem_append_right _ List.mem_cons_self)
      show H[q]? = some (vp_cell c b)
      rw [← he]
      exact this
    · exact n_P_iff.mp h z (List.mem_append_right _ (List.mem_cons_of_mem _ h2))
set_option maxRecDepth 100000 in
set_option maxHeartbeats 1000000 in
theorem n_D_cell {A : Nat → Prop} {X Y : va_W} {q : Nat} {e e' : va_E} (h : va_D A (X ++ (q, e) :: Y)) : va_D A (X ++ (q, e') :: Y) := by
  obtain ⟨h1, h2⟩ := n_D_iff.mp h
  refine n_D_iff.mpr ⟨?_, fun z hz => ?_⟩
  · rw [List.map_append, List.map_cons] at h1 ⊢
    exact h1
  · rcases List.mem_append.mp hz with h3 | h3
    · exact h2 z (List.mem_append_left _ h3)
    · rcases List.mem_cons.mp h3 with h4 | h4
      · subst h4; exact h2 (q, e) (List.mem_append_right _ List.mem_cons_self)
      · exact h2 z (List.mem_append_right _ (List.mem_cons_of_mem _ h4))
set_option maxRecDepth 100000 in
set_option maxHeartbeats 1000000 in
theorem n_rows {f : Nat → va_E} {e : va_E} (l : List Nat) : va_pl ([] ++ l) (vr_up f l e) = l.map (fun a => (a, e)) := by
  unfold va_pl
  rw [List.nil_append]
  exact List.map_congr_left fun a ha => by rw [vr_up_in ha]
set_option maxRecDepth 100000 in
set_option maxHeartbeats 1000000 in
theorem n_mna {own : String} {cc : ByteArray} {nL : Nat} {Ts : List Cond} {R : Room} {dA : Nat → ClassId} {I : Bool} {Post : va_W → Prop} {V : nTy} (C : nCX own cc nL Ts R dA I Post V) {cells slots pc : Nat} {lv : List (Nat × Value)} {st : List Value} {w : va_W} {x : Nat × va_E} {index : Nat} {n k9 : Int32} {N' K' : Nat} {z : vp_A} (hd : decode cc pc = .ok (.multianewarray index 2, 4)) (hcl : Cond.classLink own index "[[I" ∈ Ts) (harr : Cond.arrayClass .int ∈ Ts) (hn : ¬ n < 0) (hk : ¬ k9 < 0) (hN : n.toNatClampNeg = N') (hM : k9.toNatClampNeg = K') (hb1 : N' * 4 ≤ 536870912) (hb2 : K' * componentBytes .int ≤ 536870912) (hb3 : K' ≤ 536870912) (hz : ∀ c : ClassId, Jvm.Free.Multi.innerC c K' (defaultValue .int) = vp_cell c z) (hc : cells + (1 + N') ≤ R.cells) (hs : slots + (N' + N' * K') ≤ R.slots) (k : ∀ (q : Nat) (r : Nat → Nat), V (cells + 1 + N') (slots + N' + N' * K') (pc + 4) lv (.ref q :: st) (x :: (w ++ ((q, .inl (dA 6, N', .inr (.inr (.inr (.inr (fun i => some (r i))))))) :: ((List.range N').map r).map (fun a => (a, .inl (dA 0, z))))))) : V cells slots pc lv (.int k9 :: .int n :: st) (x :: w) := by
  obtain ⟨p, l, e, s, mi, args, below, meth, c, Q, dC, dI, A, hx, hb, hml, hown, hts, hst, hK, hA, hE, hNE, hin, hret, rfl⟩ := C
  intro H locs ls hP hD hS hl
  have hcy : s.vm.findClass (FieldType.array .int).toString = some (dA 0) := va_nm_int (hK.2 0 (dA 0, .int) rfl).2
  have hP0 : va_P (dC, dI) vwCl ((x :: w) ++ va_pl [] (fun _ => .inl (0, z))) H := (List.append_nil (x :: w)).symm ▸ hP
  have hD0 : va_D A ((x :: w) ++ va_pl [] (fun _ => .inl (0, z))) := (List.append_nil (x :: w)).symm ▸ hD
  refine va_mna (D := (dC, dI)) (ty := .int) (cy := dA 0) (X := x :: w) (L := []) (f := fun _ => .inl (0, z)) hx hb hown (hts _ hcl) hNE.2.2.2 (hts _ harr) hcy hK hP0 hD0 hS hA hn hk hN hM hb1 hb2 hb3 rfl rfl hc hs hz hd (fun q r cA H1 _ _ hK1 hP1 hD1 hS1 => ?_)
  have e9 := n_cls (t := 6) rfl hK1
  subst e9
  rw [n_rows, List.append_assoc] at hP1 hD1
  exact k q r H1 locs ls (n_P_cell (n_cell_q _ (fun i hi => if_pos hi)) hP1) (n_D_cell hD1) hS1 hl
set_option maxRecDepth 100000 in
set_option maxHeartbeats 1000000 in
theorem n_callC {own : String} {cc : ByteArray} {nL : Nat} {Ts : List Cond} {R : Room} {dA : Nat → ClassId} {I : Bool} {Post : va_W → Prop} {V : nTy} (C : nCX own cc nL Ts R dA I Post V) {cells slots pc : Nat} {lv : List (Nat × Value)} {st : List Value} {lo n : Nat} {ad : Nat → Nat} {m m' : sM} {σ : Type} {r : σ} {enc' : σ → Option Value} {y' : MethodName} {ws' w' : List Cond} {fr' lc' index maxL' : Nat} {f' : sM → Option (sR σ)} {mk' : (Nat → Nat) → List Value} {cc' : ByteArray} {ret' : Option FieldType} {C' : String} {ci N a : Nat} {T : u_T} {fs : List (Nat × Nat × Nat)} (con : s_Con enc' lo n y' ws' fr' lc' 0 f' mk') (hf : f' m = some (.inl r, m')) (hd : decode cc pc = .ok (.invokevirtual index, 3)) (hG : GoodIn Ts (wsV own index C' y' ws')) (hd9 : y'.cls = C' ∧ y'.cls ≠ "java/lang/invoke/MethodHandle" ∧ y'.cls ≠ "java/lang/invoke/VarHandle" ∧ (parseMethodDescriptor y'.desc).map (fun d => d.parameters.length) = some 0) (ha : lo ≤ a ∧ a < lo + n) (hL : sLay a = .inl (ci, fs)) (hc9 : vwCl[ci]? = some (C', T, N)) (hmk : mk' ad = [.ref (ad a)]) (hw : ws' = Cond.code y' cc' maxL' ret' :: w') (hR : fr' + 1 ≤ R.frames ∧ 8 + (maxL' + 11) + lc' ≤ R.locals) (hcat : (st.map fun v => v.category).sum ≤ 8) (hc : cells ≤ R.cells) (hs : slots ≤ R.slots) (k : V cells slots (pc + 3) lv ((enc' r).toList ++ st) (s_w dA ad lo n m')) : V cells slots pc lv (.ref (ad a) :: st) (s_w dA ad lo n m) := by
  obtain ⟨p, l, e, s, mi, args, below, meth, c, Q, dC, dI, A, hx, hb, hml, hown, hts, hst, hK, hA, hE, hNE, hin, hret, rfl⟩ := C
  intro H locs ls hP hD hS hl
  have hAA : ∀ q, s_A ad lo n H.size q → A q := fun q hq => by
    rcases hq with ⟨a9, h1, h2, rfl⟩ | hq
    · exact hD.2 (a9 - lo) (ad a9, s_ent dA ad m a9 (sLay a9)) (s_at ⟨h1, h2⟩)
    · exact hA q (Nat.le_trans hS.1 hq)
  have hbl : FrameBlind (s_Pc lo n dC dI dA ad (mk' ad) H.size m) := fun a U g mk q => by
    obtain ⟨q1, q2, q3, q4, q5, q6⟩ := q
    exact ⟨q1, q2, q3, va_K.moved (u := U) (U := U.calling g mk a) (Vm.Alike.refl U.vm) q4, q5, q6.same rfl rfl⟩
  have hpre : ∀ (av : Array Value), av = (mk' ad).toArray → ∀ U : State, U.heap = H → s.WarmedH U.vm → s_Pc lo n dC dI dA ad (mk' ad) H.size m av U := fun av hav U hU hW => ⟨hav, by rw [hU], by rw [hU]; exact hP, va_K.moved hW.alike hK, hD.weaken (fun _ _ _ _ => trivial), s_E.go hW hS hU hAA hE⟩
  have hrun := vx_runV (p := p) (l := l) (e := e) (R := R) (below := below) (meth := meth) (locs := locs) (cells := cells) (slots := slots) (As := []) (rest := st) (g := F0 mi pc ls (.ref (ad a) :: st)) ⟨hx, hb, hml, hown, hts⟩ (con l hst dC dI dA ad H.size m _ hf) (cwV (C := C') 0 hts hG hw rfl rfl hd9 hR) ⟨hbl, va_recv hK hP hc9 (by rw [s_at ha, s_ent_obj hL]), fun U hU hW => hpre _ (by rw [hmk]) U hU hW⟩ rfl rfl hl.1 rfl (lv_room hcat) hd ⟨hc, hs⟩
  intro T hT X9
  rcases hrun T hT X9 with ⟨v, st₀, t, T', L, h0, X', hL, e1, e2, ⟨⟨r9, m9, hres, hv, hPW, hDW⟩, hF⟩, hgo⟩ | ⟨q, st₀, t, T', L, E, ce, h0, X', hL, e1, e2, ⟨m9, hres, ⟨hPW, hDW⟩, hF⟩, hce, hcv, hcl, hgo⟩
  · cases hv
    injection hres with g1 g2
    injection g1 with g1
    subst g1 g2
    obtain ⟨k1, k2, k3⟩ := vx_keep h0 e1 hS (fun q _ hq => hAA q hq) hAA hL hF
    obtain ⟨t2, a1, b1⟩ := k T'.heap (locs ++ L) ls (by rw [e1]; exact hPW) (hDW.weaken (fun _ _ _ h9 => hAA _ h9)) k3 hl T' rfl X'
    exact ⟨t2, hgo t2 a1, b1⟩
  · injection hres with g1 g2
    cases g1
