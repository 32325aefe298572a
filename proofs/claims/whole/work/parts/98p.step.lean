/-! PURE: one step of the law keeps the relation and answers alike. -/
set_option maxRecDepth 100000 in
set_option maxHeartbeats 1000000 in
theorem bf_ {α β : Type} (lo n : Nat) (r : α) (m1 m0 : sM) (k : α → sM → Option (sR β)) : s_bf lo n (some (.inl r, m1)) m0 k = k r (s_mix lo n m1 m0) := rfl
set_option maxRecDepth 100000 in
set_option maxHeartbeats 1000000 in
theorem mix_in {lo n a : Nat} (m1 m : sM) (h : lo ≤ a ∧ a < lo + n) (j : Nat) : (s_mix lo n m1 m).1 a j = m1.1 a j ∧ (s_mix lo n m1 m).2 a j = m1.2 a j := by
  unfold s_mix
  constructor
  · show (if lo ≤ a ∧ a < lo + n then m1.1 a else m.1 a) j = _; rw [if_pos h]
  · show (if lo ≤ a ∧ a < lo + n then m1.2 a else m.2 a) j = _; rw [if_pos h]
set_option maxRecDepth 100000 in
set_option maxHeartbeats 1000000 in
theorem mix_out {lo n a : Nat} (m1 m : sM) (h : ¬ (lo ≤ a ∧ a < lo + n)) (j : Nat) : (s_mix lo n m1 m).1 a j = m.1 a j ∧ (s_mix lo n m1 m).2 a j = m.2 a j := by
  unfold s_mix
  constructor
  · show (if lo ≤ a ∧ a < lo + n then m1.1 a else m.1 a) j = _; rw [if_neg h]
  · show (if lo ≤ a ∧ a < lo + n then m1.2 a else m.2 a) j = _; rw [if_neg h]
set_option maxRecDepth 100000 in
set_option maxHeartbeats 1000000 in
theorem mixO {P : Nat → Nat → Prop} {lo n : Nat} {m1 m m' : sM} (h : ag P m' m) (hp : ∀ a j, P a j → ¬ (lo ≤ a ∧ a < lo + n)) : ag P m' (s_mix lo n m1 m) := fun a j p =>
  ⟨((mix_out m1 m (hp a j p) j).1).trans (h a j p).1, ((mix_out m1 m (hp a j p) j).2).trans (h a j p).2⟩
set_option maxRecDepth 100000 in
set_option maxHeartbeats 1000000 in
theorem mixI {P : Nat → Nat → Prop} {lo n : Nat} {m1 m m' : sM} (h : ag P m' m1) (hp : ∀ a j, P a j → lo ≤ a ∧ a < lo + n) : ag P m' (s_mix lo n m1 m) := fun a j p =>
  ⟨((mix_in m1 m (hp a j p) j).1).trans (h a j p).1, ((mix_in m1 m (hp a j p) j).2).trans (h a j p).2⟩
def LAg (cv : Int32 → Int64) (x y : Option (sR Int32)) : Prop := ∃ c mc' v mm', x = some (.inl c, mc') ∧ y = some (.inl v, mm') ∧ R mc' mm' ∧ mm'.1 110 0 = c ∧ (c = 0 → mc'.2 109 0 = cv v)
set_option maxRecDepth 100000 in
set_option maxHeartbeats 1000000 in
theorem LAg_of {cv : Int32 → Int64} {es : List String} {x y : Option (sR Int32)} {K : Int32 → sM → Option (sR Int32)} {Hd : String → sM → Option (sR Int32)} (h : Agr es x y) (hK : ∀ v mc, K v mc = some (.inl 0, s_uL mc 109 0 (cv v))) (hl : es.length ≤ 4) (hH : ∀ c E mc, c < 4 → es[c]? = some E → Hd E mc = some (.inl (nI (c + 1)), mc)) : LAg cv (s_try x K Hd) y := by
  obtain ⟨r, mc', v, mm', e1, e2, hR, h3⟩ := h
  rcases h3 with ⟨rfl, h0⟩ | ⟨E, c, rfl, hE, h0⟩
  · refine ⟨0, s_uL mc' 109 0 (cv v), v, mm', ?_, e2, R_ag (ag_uL (ag_rf _) (by omega)) (ag_rf _) hR, h0, fun _ => ?_⟩
    · rw [e1]; exact hK v mc'
    · rw [uL2, if_pos ⟨rfl, rfl⟩]
  · have hc : c < 4 := by
      have := (List.getElem?_eq_some_iff.mp hE).1
      omega
    refine ⟨nI (c + 1), mc', v, mm', ?_, e2, hR, h0, fun q => ?_⟩
    · rw [e1]; exact hH c E mc' hc hE
    · have := (nI_eq (b := 0) (by omega) (by decide)).mp q
      omega
set_option maxRecDepth 100000 in
set_option maxHeartbeats 1000000 in
theorem stepG {cv : Int32 → Int64} {FL FX : sM → Option (sR Int32)} {m : sM} (h : R m m) (hA : ∀ mm, R m mm → LAg cv (FL m) (FX mm)) (kk : sM → Option (sR Int32)) (T : Int32 → Int32 → sM → Option (sR Int32) → Option (sR Int32)) (hT : ∀ r v m k, (r = 0 → m.2 109 0 = cv v) → T r v m k = k) :
    ∃ m', R m' m' ∧ (s_bf 0 110 (FL m) m fun r5 m6 => s_bf 110 29 (FX m6) m6 fun r7 m8 => s_bf 110 29 (f_X10_thrown m8) m8 fun r9 m10 => if r9 = r5 then (s_jn (kk m10) fun k => T r5 r7 m10 k) else (some (.inl 0, m10))) = kk m' := by
  obtain ⟨c, mc', v0, mm0, e1, -⟩ := hA m h
  have h6 : R m (s_mix 0 110 mc' m) := R_ag (ag_rf _) (mixO (ag_rf _) (by intro a j q; omega)) h
  obtain ⟨c', mc2, v, mm', e1', e2, hR, ht, hv⟩ := hA _ h6
  rw [e1] at e1'
  injection e1' with e1'
  injection e1' with ec em
  injection ec with ec
  subst ec em
  obtain ⟨m8, hm8⟩ : ∃ m8, m8 = s_mix 110 29 mm' (s_mix 0 110 mc' m) := ⟨_, rfl⟩
  have a1 : ag (fun a _ => a < 110) mc' m8 := by rw [hm8]; exact mixO (mixI (ag_rf _) (by intro a j q; omega)) (by intro a j q; omega)
  have a2 : ag (fun a _ => 110 ≤ a ∧ a < 139) mm' m8 := by rw [hm8]; exact mixI (ag_rf _) (by intro a j q; omega)
  have a3 : ag (fun _ _ => True) m8 (s_mix 110 29 m8 m8) := fun a j _ => by
    by_cases q : 110 ≤ a ∧ a < 110 + 29
    · exact mix_in m8 m8 q j
    · exact mix_out m8 m8 q j
  refine ⟨s_mix 110 29 m8 m8, R_ag (ag_tr (ag_mo a1 (by intro a j q; omega)) (ag_mo a3 (by intro a j q; trivial))) (ag_tr (ag_mo a2 (by intro a j q; omega)) (ag_mo a3 (by intro a j q; trivial))) hR, ?_⟩
  have et : f_X10_thrown m8 = some (.inl (m8.1 110 0), m8) := rfl
  have e0 : m8.1 110 0 = c := ((a2 110 0 (by omega)).1).trans ht
  rw [e1, bf_, e2, bf_, ← hm8, et, bf_, if_pos e0, jn_]
  exact hT c v _ _ (fun q => by rw [(a3 109 0 trivial).2, (a1 109 0 (by omega)).2]; exact hv q)
set_option maxRecDepth 100000 in
set_option maxHeartbeats 1000000 in
theorem stepT {cv : Int32 → Int64} {FL FX : sM → Option (sR Int32)} {m : sM} (h : R m m) (hA : ∀ mm, R m mm → LAg cv (FL m) (FX mm)) (kk : sM → Option (sR Int32)) :
    ∃ m', R m' m' ∧ (s_bf 0 110 (FL m) m fun r5 m6 => s_bf 110 29 (FX m6) m6 fun r7 m8 => s_bf 110 29 (f_X10_thrown m8) m8 fun r9 m10 => if r9 = r5 then (s_jn (kk m10) fun k => if r5 = 0 then (s_ix 0 1 fun j => if (lg_cmp (m10.2 109 j) (cv r7)) = 0 then k else (some (.inl 0, m10))) else k) else (some (.inl 0, m10))) = kk m' := by
  refine stepG h hA kk (fun r5 r7 m10 k => if r5 = 0 then (s_ix 0 1 fun j => if (lg_cmp (m10.2 109 j) (cv r7)) = 0 then k else (some (.inl 0, m10))) else k) (fun r v m k hv => ?_)
  by_cases q : r = 0
  · rw [if_pos q, ixl _ (by decide) (by decide), if_pos ((lg_cmp_0 _ _).mpr (hv q))]
  · rw [if_neg q]
def cvB (x : Int32) : Int64 := if x = 0 then 0 else 1
set_option maxRecDepth 100000 in
set_option maxHeartbeats 1000000 in
theorem stepB {FL FX : sM → Option (sR Int32)} {m : sM} (h : R m m) (hA : ∀ mm, R m mm → LAg cvB (FL m) (FX mm)) (kk : sM → Option (sR Int32)) :
    ∃ m', R m' m' ∧ (s_bf 0 110 (FL m) m fun r5 m6 => s_bf 110 29 (FX m6) m6 fun r7 m8 => s_bf 110 29 (f_X10_thrown m8) m8 fun r9 m10 => if r9 = r5 then (s_jn (kk m10) fun k => if r5 = 0 then (s_ix 0 1 fun j => s_jn (fun (s0 : Int64) => if (lg_cmp (m10.2 109 j) s0) = 0 then k else (some (.inl 0, m10))) fun k2 => if r7 = 0 then (k2 0) else (k2 1)) else k) else (some (.inl 0, m10))) = kk m' := by
  refine stepG h hA kk (fun r5 r7 m10 k => if r5 = 0 then (s_ix 0 1 fun j => s_jn (fun (s0 : Int64) => if (lg_cmp (m10.2 109 j) s0) = 0 then k else (some (.inl 0, m10))) fun k2 => if r7 = 0 then (k2 0) else (k2 1)) else k) (fun r v m k hv => ?_)
  by_cases q : r = 0
  · have := hv q
    unfold cvB at this
    rw [if_pos q, ixl _ (by decide) (by decide), jn_]
    by_cases w : v = 0
    · rw [if_pos w] at this
      rw [if_pos w]; exact if_pos ((lg_cmp_0 _ _).mpr this)
    · rw [if_neg w] at this
      rw [if_neg w]; exact if_pos ((lg_cmp_0 _ _).mpr this)
  · rw [if_neg q]
set_option maxRecDepth 100000 in
set_option maxHeartbeats 1000000 in
theorem stepP {FL FX : sM → Option (sR Int32)} {m : sM} (h : R m m) (hA : ∀ mm, R m mm → Agr [] (FL m) (FX mm)) (kk : sM → Option (sR Int32)) :
    ∃ m', R m' m' ∧ (s_bf 0 109 (FL m) m fun r1 m2 => s_bf 110 29 (FX m2) m2 fun r3 m4 => if r1 = r3 then (kk m4) else (some (.inl 0, m4))) = kk m' := by
  have hA' : ∀ mm, R m mm → ∃ mc' v mm', FL m = some (.inl v, mc') ∧ FX mm = some (.inl v, mm') ∧ R mc' mm' := fun mm hmm => by
    obtain ⟨r, mc', v, mm', e1, e2, hR, h3⟩ := hA mm hmm
    rcases h3 with ⟨rfl, h0⟩ | ⟨E, c, rfl, hE, h0⟩
    · exact ⟨mc', v, mm', e1, e2, hR⟩
    · rw [List.getElem?_nil] at hE; cases hE
  obtain ⟨mc', v0, mm0, e1, -⟩ := hA' m h
  have h6 : R m (s_mix 0 109 mc' m) := R_ag (ag_rf _) (mixO (ag_rf _) (by intro a j q; omega)) h
  obtain ⟨mc2, v, mm', e1', e2, hR⟩ := hA' _ h6
  rw [e1] at e1'
  injection e1' with e1'
  injection e1' with ec em
  injection ec with ec
  subst ec em
  obtain ⟨m8, hm8⟩ : ∃ m8, m8 = s_mix 110 29 mm' (s_mix 0 109 mc' m) := ⟨_, rfl⟩
  have a1 : ag (fun a _ => a < 109) mc' m8 := by rw [hm8]; exact mixO (mixI (ag_rf _) (by intro a j q; omega)) (by intro a j q; omega)
  have a2 : ag (fun a _ => 110 ≤ a ∧ a < 139) mm' m8 := by rw [hm8]; exact mixI (ag_rf _) (by intro a j q; omega)
  refine ⟨m8, R_ag (ag_mo a1 (by intro a j q; omega)) (ag_mo a2 (by intro a j q; omega)) hR, ?_⟩
  rw [e1, bf_, e2, bf_, ← hm8, if_pos rfl]
