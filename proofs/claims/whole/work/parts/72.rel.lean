/-! PURE: the relation between the class's memory and the reference's. -/
def Wp {ρ : Type} (x : Option (sR ρ)) (Q : ρ → sM → Prop) : Prop := ∃ v m, x = some (.inl v, m) ∧ Q v m
theorem Wp_r {ρ : Type} {v : ρ} {m : sM} {Q : ρ → sM → Prop} (h : Q v m) : Wp (some (.inl v, m)) Q := ⟨v, m, rfl, h⟩
theorem Wp_bd {α β : Type} {x : Option (sR α)} {k : α → sM → Option (sR β)} {Q : β → sM → Prop} (h : Wp x (fun v m => Wp (k v m) Q)) : Wp (s_bd x k) Q := by
  obtain ⟨v, m, e, h⟩ := h
  rw [e]
  exact h
theorem Wp_mono {ρ : Type} {x : Option (sR ρ)} {Q Q' : ρ → sM → Prop} (h : Wp x Q) (hq : ∀ v m, Q v m → Q' v m) : Wp x Q' := by
  obtain ⟨v, m, e, h⟩ := h
  exact ⟨v, m, e, hq v m h⟩
theorem Wp_eq {ρ : Type} {x y : Option (sR ρ)} {Q : ρ → sM → Prop} (e : x = y) (h : Wp y Q) : Wp x Q := e ▸ h
theorem lpW {σ ρ : Type} (F : Nat → Nat → σ → Option (sR ρ)) (Inv : Nat → σ → Prop) (Q : ρ → sM → Prop) (n : Nat)
    (step : ∀ i s g, i < n → Inv i s → (∀ s', Inv (i + 1) s' → Wp (F g (i + 1) s') Q) → Wp (F (g + 1) i s) Q)
    (exit : ∀ s g, Inv n s → Wp (F (g + 1) n s) Q) :
    ∀ d i s g, i + d = n → d < g → Inv i s → Wp (F g i s) Q := by
  intro d
  induction d with
  | zero =>
    intro i s g h1 h2 hI
    obtain ⟨g, rfl⟩ := Nat.exists_eq_add_of_lt h2
    have : i = n := by omega
    subst this
    rw [Nat.zero_add]
    exact exit s g hI
  | succ d ih =>
    intro i s g h1 h2 hI
    obtain ⟨g, rfl⟩ : ∃ g', g = g' + 1 := ⟨g - 1, by omega⟩
    exact step i s g (by omega) hI (fun s' hI' => ih (i + 1) s' g (by omega) (by omega) hI')
def ag (P : Nat → Nat → Prop) (m m' : sM) : Prop := ∀ a j, P a j → m'.1 a j = m.1 a j ∧ m'.2 a j = m.2 a j
theorem ag_rf {P : Nat → Nat → Prop} (m : sM) : ag P m m := fun _ _ _ => ⟨rfl, rfl⟩
theorem ag_tr {P : Nat → Nat → Prop} {m m1 m2 : sM} (h : ag P m m1) (h2 : ag P m1 m2) : ag P m m2 := fun a j p => ⟨((h2 a j p).1).trans (h a j p).1, ((h2 a j p).2).trans (h a j p).2⟩
theorem ag_mo {P P' : Nat → Nat → Prop} {m m1 : sM} (h : ag P m m1) (hp : ∀ a j, P' a j → P a j) : ag P' m m1 := fun a j p => h a j (hp a j p)
theorem ag_up {P : Nat → Nat → Prop} {m m1 : sM} {a k : Nat} {v : Int32} (h : ag P m m1) (hp : ¬ P a k) : ag P m (s_up m1 a k v) := fun b j p => by
  refine ⟨?_, (h b j p).2⟩
  rw [up1, if_neg]
  · exact (h b j p).1
  · rintro ⟨rfl, rfl⟩; exact hp p
theorem ag_uL {P : Nat → Nat → Prop} {m m1 : sM} {a k : Nat} {v : Int64} (h : ag P m m1) (hp : ¬ P a k) : ag P m (s_uL m1 a k v) := fun b j p => by
  refine ⟨(h b j p).1, ?_⟩
  rw [uL2, if_neg]
  · exact (h b j p).2
  · rintro ⟨rfl, rfl⟩; exact hp p
theorem ag_cp {P : Nat → Nat → Prop} {m m1 : sM} {a b sp dp n : Nat} (h : ag P m m1) (hp : ∀ j, dp ≤ j → j < dp + n → ¬ P b j) : ag P m (s_cp m1 a b sp dp n) := fun c j p => by
  refine ⟨?_, (h c j p).2⟩
  rw [cp1, if_neg]
  · exact (h c j p).1
  · rintro ⟨rfl, h1, h2⟩; exact hp j h1 h2 p
/-! the components -/
abbrev dcDisk (a _j : Nat) : Prop := 4 ≤ a ∧ a < 36
abbrev dmDisk (a _j : Nat) : Prop := a = 111
def rDisk (mc mm : sM) : Prop := ∀ b c, b < 32 → c < 13 → mc.1 (4 + b) c = mm.1 111 (13 * b + c)
theorem rDisk_ag {mc mc' mm mm' : sM} (hc : ag dcDisk mc mc') (hm : ag dmDisk mm mm') (h : rDisk mc mm) : rDisk mc' mm' := fun b c hb hcc => by
  rw [(hc (4 + b) c (by omega)).1, (hm 111 _ rfl).1]
  exact h b c hb hcc
abbrev dcOpen (a j : Nat) : Prop := a = 0 ∧ j = 15
abbrev dmOpen (a j : Nat) : Prop := a = 110 ∧ j = 2
def rOpen (mc mm : sM) : Prop := ∃ o : Bool, mc.1 0 15 = bi o ∧ mm.1 110 2 = bi o
theorem rOpen_ag {mc mc' mm mm' : sM} (hc : ag dcOpen mc mc') (hm : ag dmOpen mm mm') (h : rOpen mc mm) : rOpen mc' mm' := by
  obtain ⟨o, h1, h2⟩ := h
  exact ⟨o, (hc 0 15 ⟨rfl, rfl⟩).1.trans h1, (hm 110 2 ⟨rfl, rfl⟩).1.trans h2⟩
abbrev dcVer (v a _j : Nat) : Prop := v ≤ a ∧ a < v + 3
abbrev dmVer (w a j : Nat) : Prop := ((a = 112 ∨ a = 113) ∧ j = w) ∨ (a = 114 ∧ 8 * w ≤ j ∧ j < 8 * w + 8) ∨ ((a = 115 ∨ a = 116) ∧ 64 * w ≤ j ∧ j < 64 * w + 64)
def isB (x : Int32) : Prop := x = -1 ∨ ∃ b, 2 ≤ b ∧ b < 32 ∧ x = nI b
def rVer (mc mm : sM) (v w : Nat) : Prop :=
  mc.1 v 3 = mm.1 112 w ∧ mc.1 v 5 = mm.1 113 w ∧ (∃ t, 2 ≤ t ∧ t < 32 ∧ mm.1 113 w = nI t) ∧
  (∀ p, p < 8 → mc.1 (v + 1) p = mm.1 114 (8 * w + p) ∧ isB (mm.1 114 (8 * w + p))) ∧
  (∀ k, k < 64 → mm.1 115 (64 * w + k) = bi (lb (mc.2 v 2) k) ∧ (lb (mc.2 v 2) k = true → mc.1 (v + 2) k = mm.1 116 (64 * w + k)))
theorem rVer_ag {mc mc' mm mm' : sM} {v w : Nat} (hc : ag (dcVer v) mc mc') (hm : ag (dmVer w) mm mm') (h : rVer mc mm v w) : rVer mc' mm' v w := by
  obtain ⟨h1, h2, ⟨t, t1, t2, t3⟩, h4, h5⟩ := h
  refine ⟨?_, ?_, ⟨t, t1, t2, ?_⟩, fun p hp => ?_, fun k hk => ?_⟩
  · rw [(hc v 3 (by omega)).1, (hm 112 w (by omega)).1]; exact h1
  · rw [(hc v 5 (by omega)).1, (hm 113 w (by omega)).1]; exact h2
  · rw [(hm 113 w (by omega)).1]; exact t3
  · rw [(hc (v + 1) p (by omega)).1, (hm 114 (8 * w + p) (by omega)).1]; exact h4 p hp
  · rw [(hc (v + 2) k (by omega)).1, (hc v 2 (by omega)).2, (hm 115 (64 * w + k) (by omega)).1, (hm 116 (64 * w + k) (by omega)).1]; exact h5 k hk
abbrev dcPres (a j : Nat) : Prop := dcVer 36 a j
abbrev dmPres (a j : Nat) : Prop := dmVer 0 a j ∨ (a = 110 ∧ j = 3)
def rPres (mc mm : sM) : Prop := rVer mc mm 36 0 ∧ mc.1 36 4 = mm.1 110 3 ∧ (mc.1 36 4 = 0 ∨ mc.1 36 4 = 1) ∧ (∃ n, n ≤ 999999 ∧ mc.1 36 3 = nI n) ∧
  (∀ p, p < 8 → mc.1 37 p ≠ mc.1 36 5) ∧ (∀ p q, p < 8 → q < 8 → p ≠ q → mc.1 37 p = mc.1 37 q → mc.1 37 p = -1)
theorem rPres_ag {mc mc' mm mm' : sM} (hc : ag dcPres mc mc') (hm : ag dmPres mm mm') (h : rPres mc mm) : rPres mc' mm' := by
  obtain ⟨h1, h2, h3, ⟨n, n1, n2⟩, h5, h6⟩ := h
  refine ⟨rVer_ag hc (ag_mo hm fun a j p => Or.inl p) h1, ?_, ?_, ⟨n, n1, ?_⟩, fun p hp => ?_, fun p q hp hq => ?_⟩
  · rw [(hc 36 4 (by omega)).1, (hm 110 3 (by omega)).1]; exact h2
  · rw [(hc 36 4 (by omega)).1]; exact h3
  · rw [(hc 36 3 (by omega)).1]; exact n2
  · rw [(hc 37 p (by omega)).1, (hc 36 5 (by omega)).1]; exact h5 p hp
  · rw [(hc 37 p (by omega)).1, (hc 37 q (by omega)).1]; exact h6 p q hp hq
abbrev dcPins (a j : Nat) : Prop := a = 49 ∨ (42 ≤ a ∧ a < 48)
abbrev dmPins (a j : Nat) : Prop := a = 117 ∨ dmVer 1 a j ∨ dmVer 2 a j
def rPins (mc mm : sM) : Prop := ∀ p, p < 2 → ∃ b : Bool, mc.1 49 p = bi b ∧ mm.1 117 p = bi b ∧ (b = true → rVer mc mm (42 + 3 * p) (1 + p))
theorem rPins_ag {mc mc' mm mm' : sM} (hc : ag dcPins mc mc') (hm : ag dmPins mm mm') (h : rPins mc mm) : rPins mc' mm' := fun p hp => by
  obtain ⟨b, h1, h2, h3⟩ := h p hp
  refine ⟨b, ?_, ?_, fun hb => rVer_ag (ag_mo hc fun a j q => by omega) (ag_mo hm fun a j q => ?_) (h3 hb)⟩
  · rw [(hc 49 p (by omega)).1]; exact h1
  · rw [(hm 117 p (by omega)).1]; exact h2
  · rcases (by omega : p = 0 ∨ p = 1) with rfl | rfl
    · exact Or.inr (Or.inl q)
    · exact Or.inr (Or.inr q)
/-- one set of changes: the class's at a, the reference's at places o .. o+63 of the arrays x, y, z -/
def rChg (mc mm : sM) (a x y z o : Nat) : Prop := ∀ k, k < 64 → mm.1 x (o + k) = bi (lb (mc.2 a 1) k) ∧ (mm.1 y (o + k) = 0 ∨ mm.1 y (o + k) = 1) ∧
  (lb (mc.2 a 2) k = true → lb (mc.2 a 1) k = true) ∧ (lb (mc.2 a 1) k = true → mm.1 y (o + k) = bi (lb (mc.2 a 2) k)) ∧
  (lb (mc.2 a 1) k = true → lb (mc.2 a 2) k = false → mc.1 (a + 1) k = mm.1 z (o + k))
theorem rChg_ag {mc mc' mm mm' : sM} {a x y z o : Nat} (hc : ag (fun b _ => b = a ∨ b = a + 1) mc mc') (hm : ag (fun b j => (b = x ∨ b = y ∨ b = z) ∧ o ≤ j ∧ j < o + 64) mm mm') (h : rChg mc mm a x y z o) : rChg mc' mm' a x y z o := fun k hk => by
  rw [(hc a 1 (Or.inl rfl)).2, (hc a 2 (Or.inl rfl)).2, (hc (a + 1) k (Or.inr rfl)).1, (hm x (o + k) ⟨Or.inl rfl, by omega, by omega⟩).1, (hm y (o + k) ⟨Or.inr (Or.inl rfl), by omega, by omega⟩).1, (hm z (o + k) ⟨Or.inr (Or.inr rfl), by omega, by omega⟩).1]
  exact h k hk
abbrev dcSlot (s a _j : Nat) : Prop := 54 + 10 * s ≤ a ∧ a < 64 + 10 * s
abbrev dmSlot (s a j : Nat) : Prop := ((a = 118 ∨ a = 122) ∧ j = s) ∨ ((a = 119 ∨ a = 120 ∨ a = 121) ∧ 64 * s ≤ j ∧ j < 64 * s + 64) ∨ ((a = 123 ∨ a = 124 ∨ a = 125) ∧ 192 * s ≤ j ∧ j < 192 * s + 192)
def rSlot (mc mm : sM) (s : Nat) : Prop := ∃ st c, st < 3 ∧ c ≤ 3 ∧ mc.1 (54 + 10 * s) 3 = nI st ∧ mm.1 118 s = nI st ∧ mc.1 (54 + 10 * s) 2 = nI c ∧ mm.1 122 s = nI c ∧
  rChg mc mm (54 + 10 * s + 1) 119 120 121 (64 * s) ∧ (∀ j, j < c → rChg mc mm (54 + 10 * s + 4 + 2 * j) 123 124 125 (64 * (3 * s + j))) ∧
  (st = 0 → c = 0 ∧ ∀ k, k < 64 → lb (mc.2 (54 + 10 * s + 1) 1) k = false)
theorem rSlot_ag {mc mc' mm mm' : sM} {s : Nat} (hc : ag (dcSlot s) mc mc') (hm : ag (dmSlot s) mm mm') (h : rSlot mc mm s) : rSlot mc' mm' s := by
  obtain ⟨st, c, s1, c1, h1, h2, h3, h4, h5, h6, h7⟩ := h
  refine ⟨st, c, s1, c1, ?_, ?_, ?_, ?_, rChg_ag (ag_mo hc fun a j q => by omega) (ag_mo hm fun a j q => by omega) h5, fun j hj => rChg_ag (ag_mo hc fun a j q => by omega) (ag_mo hm fun a j q => by omega) (h6 j hj), fun h0 => ⟨(h7 h0).1, fun k hk => ?_⟩⟩
  · rw [(hc _ 3 (by omega)).1]; exact h1
  · rw [(hm 118 s (by omega)).1]; exact h2
  · rw [(hc _ 2 (by omega)).1]; exact h3
  · rw [(hm 122 s (by omega)).1]; exact h4
  · rw [(hc (54 + 10 * s + 1) 1 (by omega)).2]; exact (h7 h0).2 k hk
abbrev dcOrd (a j : Nat) : Prop := (a = 0 ∧ j = 7) ∨ a = 84 ∨ ((a = 54 ∨ a = 64 ∨ a = 74) ∧ j = 3)
abbrev dmOrd (a j : Nat) : Prop := (a = 110 ∧ j = 19) ∨ a = 126
def rOrd (mc mm : sM) : Prop := ∃ (n : Nat) (o : Nat → Nat), n ≤ 3 ∧ mc.1 0 7 = nI n ∧ mm.1 110 19 = nI n ∧
  (∀ i, i < n → o i < 3 ∧ mc.1 84 i = nI (o i) ∧ mm.1 126 i = nI (o i) ∧ mc.1 (54 + 10 * o i) 3 = 2) ∧
  (∀ i j, i < n → j < n → o i = o j → i = j) ∧ (∀ s, s < 3 → mc.1 (54 + 10 * s) 3 = 2 → ∃ i, i < n ∧ o i = s)
theorem rOrd_ag {mc mc' mm mm' : sM} (hc : ∀ a j, dcOrd a j → mc'.1 a j = mc.1 a j) (hm : ag dmOrd mm mm') (h : rOrd mc mm) : rOrd mc' mm' := by
  obtain ⟨n, o, n3, h1, h2, h3, h4, h5⟩ := h
  have hs : ∀ s, s < 3 → mc'.1 (54 + 10 * s) 3 = mc.1 (54 + 10 * s) 3 := fun s hs => hc _ 3 (by omega)
  refine ⟨n, o, n3, ?_, ?_, fun i hi => ?_, h4, fun s hs3 hs2 => ?_⟩
  · rw [hc 0 7 (by omega)]; exact h1
  · rw [(hm 110 19 (by omega)).1]; exact h2
  · have q := h3 i hi
    rw [hc 84 i (by omega), (hm 126 i (by omega)).1, hs _ q.1]; exact q
  · rw [hs s hs3] at hs2; exact h5 s hs3 hs2
abbrev dcIn (a j : Nat) : Prop := (a = 85 ∧ j = 1) ∨ a = 86
abbrev dmIn (a j : Nat) : Prop := (a = 110 ∧ j = 21) ∨ a = 127
def rIn (mc mm : sM) : Prop := ∃ n, n ≤ 60 ∧ mc.1 85 1 = nI n ∧ mm.1 110 21 = nI n ∧ ∀ i, i < n → mc.1 86 i = mm.1 127 i
theorem rIn_ag {mc mc' mm mm' : sM} (hc : ag dcIn mc mc') (hm : ag dmIn mm mm') (h : rIn mc mm) : rIn mc' mm' := by
  obtain ⟨n, n1, h1, h2, h3⟩ := h
  refine ⟨n, n1, (hc 85 1 (by omega)).1.trans h1, (hm 110 21 (by omega)).1.trans h2, fun i hi => ?_⟩
  rw [(hc 86 i (by omega)).1, (hm 127 i (by omega)).1]; exact h3 i hi
abbrev dcOut (a j : Nat) : Prop := (a = 91 ∧ j = 2) ∨ a = 92
abbrev dmOut (a j : Nat) : Prop := (a = 110 ∧ j = 23) ∨ a = 128
def rOut (mc mm : sM) : Prop := ∃ n, n ≤ 960 ∧ mc.1 91 2 = nI n ∧ mm.1 110 23 = nI n ∧ ∀ i, i < n → mc.1 92 i = mm.1 128 i ∧ narrow .char (.int (mc.1 92 i)) = .int (mc.1 92 i)
theorem rOut_ag {mc mc' mm mm' : sM} (hc : ag dcOut mc mc') (hm : ag dmOut mm mm') (h : rOut mc mm) : rOut mc' mm' := by
  obtain ⟨n, n1, h1, h2, h3⟩ := h
  refine ⟨n, n1, (hc 91 2 (by omega)).1.trans h1, (hm 110 23 (by omega)).1.trans h2, fun i hi => ?_⟩
  rw [(hc 92 i (by omega)).1, (hm 128 i (by omega)).1]; exact h3 i hi
abbrev dcLog (a j : Nat) : Prop := (a = 94 ∧ j = 1) ∨ (96 ≤ a ∧ a < 104)
abbrev dmLog (a j : Nat) : Prop := (a = 110 ∧ j = 25) ∨ a = 129
def rLog (mc mm : sM) : Prop := ∃ n, n ≤ 8 ∧ mc.1 94 1 = nI n ∧ mm.1 110 25 = nI n ∧ ∀ r w, r < 8 → w < 4 → mc.1 (96 + r) w = mm.1 129 (4 * r + w)
theorem rLog_ag {mc mc' mm mm' : sM} (hc : ag dcLog mc mc') (hm : ag dmLog mm mm') (h : rLog mc mm) : rLog mc' mm' := by
  obtain ⟨n, n1, h1, h2, h3⟩ := h
  refine ⟨n, n1, (hc 94 1 (by omega)).1.trans h1, (hm 110 25 (by omega)).1.trans h2, fun r w hr hw => ?_⟩
  rw [(hc (96 + r) w (by omega)).1, (hm 129 _ (by omega)).1]; exact h3 r w hr hw
abbrev dcStat (a _j : Nat) : Prop := a = 108
abbrev dmStat (a _j : Nat) : Prop := a = 130
def rStat (mc mm : sM) : Prop := ∀ i, i < 8 → mc.1 108 i = mm.1 130 i
theorem rStat_ag {mc mc' mm mm' : sM} (hc : ag dcStat mc mc') (hm : ag dmStat mm mm') (h : rStat mc mm) : rStat mc' mm' := fun i hi => by
  rw [(hc 108 i rfl).1, (hm 130 i rfl).1]; exact h i hi
abbrev dcSalv (a _j : Nat) : Prop := 104 ≤ a ∧ a < 108
abbrev dmSalv (a _j : Nat) : Prop := 131 ≤ a ∧ a < 135
def rSalv (mc mm : sM) : Prop := ∀ k, k < 64 → mm.1 131 k = bi (lb (mc.2 104 3) k) ∧ (lb (mc.2 104 3) k = true → mc.1 105 k = mm.1 132 k ∧ mc.1 106 k = mm.1 133 k ∧ mc.1 107 k = mm.1 134 k)
theorem rSalv_ag {mc mc' mm mm' : sM} (hc : ag dcSalv mc mc') (hm : ag dmSalv mm mm') (h : rSalv mc mm) : rSalv mc' mm' := fun k hk => by
  rw [(hc 104 3 (by omega)).2, (hc 105 k (by omega)).1, (hc 106 k (by omega)).1, (hc 107 k (by omega)).1, (hm 131 k (by omega)).1, (hm 132 k (by omega)).1, (hm 133 k (by omega)).1, (hm 134 k (by omega)).1]; exact h k hk
/-- the whole relation -/
def R (mc mm : sM) : Prop := rDisk mc mm ∧ rOpen mc mm ∧ rPres mc mm ∧ rPins mc mm ∧ (∀ s, s < 3 → rSlot mc mm s) ∧ rOrd mc mm ∧ rIn mc mm ∧ rOut mc mm ∧ rLog mc mm ∧ rStat mc mm ∧ rSalv mc mm
abbrev dcAll (a _j : Nat) : Prop := a < 109 ∧ a ≠ 3 ∧ a ≠ 39 ∧ a ≠ 40 ∧ a ≠ 41 ∧ a ≠ 50 ∧ a ≠ 51 ∧ a ≠ 52 ∧ a ≠ 93 ∧ ¬ (87 ≤ a ∧ a ≤ 90)
abbrev dmAll (a j : Nat) : Prop := 110 ≤ a ∧ a < 135 ∧ ¬ (a = 110 ∧ (j = 0 ∨ j = 31 ∨ j = 32 ∨ j = 37))
theorem R_ag {mc mc' mm mm' : sM} (hc : ag dcAll mc mc') (hm : ag dmAll mm mm') (h : R mc mm) : R mc' mm' := by
  obtain ⟨h1, h2, h3, h4, h5, h6, h7, h8, h9, h10, h11⟩ := h
  refine ⟨rDisk_ag (ag_mo hc ?_) (ag_mo hm ?_) h1, rOpen_ag (ag_mo hc ?_) (ag_mo hm ?_) h2, rPres_ag (ag_mo hc ?_) (ag_mo hm ?_) h3, rPins_ag (ag_mo hc ?_) (ag_mo hm ?_) h4, fun s hs => rSlot_ag (ag_mo hc ?_) (ag_mo hm ?_) (h5 s hs), rOrd_ag (fun a j q => (hc a j (by omega)).1) (ag_mo hm ?_) h6, rIn_ag (ag_mo hc ?_) (ag_mo hm ?_) h7, rOut_ag (ag_mo hc ?_) (ag_mo hm ?_) h8, rLog_ag (ag_mo hc ?_) (ag_mo hm ?_) h9, rStat_ag (ag_mo hc ?_) (ag_mo hm ?_) h10, rSalv_ag (ag_mo hc ?_) (ag_mo hm ?_) h11⟩ <;> (intro a j q; omega)
theorem R_thr {mc mm : sM} {t : Int32} (h : R mc mm) : R mc (s_up mm 110 0 t) := R_ag (ag_rf _) (ag_up (ag_rf _) (by omega)) h
