/-! p26: plans -/
theorem absI {x : Int} (h : -1000 ≤ x ∧ x ≤ 1000) : (if (0 : Int32) ≤ iI x then some (iI x) else some (-iI x)) = some (iI (ab x)) := by
  have e : ((0 : Int32) ≤ iI x) ↔ 0 ≤ x := iI_le (a := 0) (by omega) (by omega) (by omega) (by omega)
  unfold ab
  by_cases c : 0 ≤ x
  · rw [if_pos (e.mpr c), if_pos c]
  · rw [if_neg (fun z => c (e.mp z)), if_neg c, iI_neg]
theorem aim_le2 {a : AL} {p : Nat} {i j : Int} (hi : 0 ≤ i) (hij : i < j) (hj : j ≤ 2) {x y x' y' : Int} (h1 : sC (rchN a p (need a i)) 9 = some (x, y)) (h2 : sC (rchN a p (need a j)) 9 = some (x', y')) : ab x + ab y ≤ ab x' + ab y' := by
  by_cases c : j = i + 1
  · subst c
    exact aim_le (by omega) h1 h2
  · have ei : i = 0 := by omega
    have ej : j = 2 := by omega
    subst ei
    subst ej
    cases e : sC (rchN a p (need a 1)) 9 with
    | none =>
      have := aim_none (a := a) (p := p) (aim := 1) (Or.inr rfl) e
      rw [show (1 : Int) + 1 = 2 from rfl, h2] at this
      cases this
    | some r =>
      obtain ⟨u, v⟩ := r
      have g1 := aim_le (a := a) (p := p) (aim := 0) (Or.inl rfl) h1 e
      have g2 := aim_le (a := a) (p := p) (aim := 1) (Or.inr rfl) e h2
      omega
abbrev PLT : Type := Int × LyS × SiS × PaS × PlS × LyS × SiS × HiS × LyS × LyS × LyS × LyS × LyS
section ZX
def plI (a : AL) (c : Int) (p : Nat) (i : Nat) (u : PLT) : Prop := CS u.2.1 a c ∧ (∃ k, HK u.2.2.2.2.2.2.2.1 k) ∧ 0 ≤ u.1 ∧ u.1 ≤ 8 ∧ ∀ j : Int, (i : Int) ≤ j → j ≤ 2 → ∀ x y, sC (rchN a p (need a j)) 9 = some (x, y) → u.1 ≤ ab x + ab y
def plM (i : Nat) (u : PLT) : Int32 × Int32 × LyS × SiS × PaS × PlS × LyS × SiS × HiS × LyS × LyS × LyS × LyS × LyS := (iI u.1, iI (i : Int), u.2)
variable {a : AL}
theorem pl_none {c : Int} {p : Nat} (ha : AOK a) (hp : p < aN a) (tx : TxS) {i : Nat} (hi : i < 3) {u : PLT} (hI : plI a c p i u) (hn : sC (rchN a p (need a (i : Int))) 9 = none) : ∃ u', b_L_plans_34 tx (iI (p : Int)) (iI (aN a : Int)) (iI (cons a : Int)) (plM i u) = some (.inl (plM (i + 1) u')) ∧ plI a c p (i + 1) u' := by
  obtain ⟨cost, s, ss, pa, pl, tr, ps, hi0, h0, h1, h2, h3, h4⟩ := u
  obtain ⟨hs, hk, hc1, hc2, hmin⟩ := hI
  dsimp only at hs hk hc1 hc2 hmin
  obtain ⟨-, hl, -⟩ := id hs
  have f9 : (iI (-109) = (-109 : Int32)) = True := eq_true rfl
  obtain ⟨pl1, tr1, ps1, e1⟩ := z_least hl ha hp (aim := i) (w := 0) (by omega) (by omega) pl tr ps
  obtain ⟨pl2, tr2, ps2, e2⟩ := z_least hl ha hp (aim := i) (w := 1) (by omega) (by omega) pl1 tr1 ps1
  obtain ⟨pl3, tr3, ps3, e3⟩ := z_least hl ha hp (aim := i) (w := 2) (by omega) (by omega) pl2 tr2 ps2
  rw [lsv_none hn] at e1 e2 e3
  have e1 : f_X7_leastShift s pl tr ps (iI (p : Int)) (iI (i : Int)) (0 : Int32) = _ := e1
  have e2 : f_X7_leastShift s pl1 tr1 ps1 (iI (p : Int)) (iI (i : Int)) (1 : Int32) = _ := e2
  have e3 : f_X7_leastShift s pl2 tr2 ps2 (iI (p : Int)) (iI (i : Int)) (2 : Int32) = _ := e3
  unfold plM
  rw [b_L_plans_34]
  have f1 : ((3 : Int32) ≤ iI (i : Int)) = False := eq_false (fun z => by
    have := (iI_le (a := 3) (by omega) (by omega) (by omega) (by omega)).mp z
    omega)
  by_cases c2 : i = 2
  · have f2 : ((2 : Int32) ≤ iI (i : Int)) = True := eq_true ((iI_le (a := 2) (by omega) (by omega) (by omega) (by omega)).mpr (by omega))
    simp only [f1, f2, f9, e1, e2, e3, ob_some, ↓reduceIte, iI_suc]
    exact ⟨(cost, s, ss, pa, pl3, tr3, ps3, hi0, h0, h1, h2, h3, h4), rfl, hs, hk, hc1, hc2, fun j hj1 hj2 => hmin j (by omega) hj2⟩
  · have f2 : ((2 : Int32) ≤ iI (i : Int)) = False := eq_false (fun z => by
      have := (iI_le (a := 2) (by omega) (by omega) (by omega) (by omega)).mp z
      omega)
    have hn2 := aim_none (a := a) (p := p) (aim := i) (by omega) hn
    obtain ⟨pl4, tr4, ps4, e4⟩ := z_least hl ha hp (aim := (i : Int) + 1) (w := 0) (by omega) (by omega) pl3 tr3 ps3
    rw [lsv_none hn2] at e4
    have e4 : f_X7_leastShift s pl3 tr3 ps3 (iI (p : Int)) (iI ((i + 1 : Nat) : Int)) (0 : Int32) = _ := e4
    simp only [f1, f2, f9, e1, e2, e3, ob_some, ↓reduceIte, iI_suc, e4]
    exact ⟨(cost, s, ss, pa, pl4, tr4, ps4, hi0, h0, h1, h2, h3, h4), rfl, hs, hk, hc1, hc2, fun j hj1 hj2 => hmin j (by omega) hj2⟩
set_option maxHeartbeats 1000000 in
theorem pl_some0 {c : Int} {p : Nat} (ha : AOK a) (hp : p < aN a) (tx : TxS) {u : PLT} (hI : plI a c p 0 u) {x y : Int} (hsome : sC (rchN a p (need a 0)) 9 = some (x, y)) : ∃ u', b_L_plans_34 tx (iI (p : Int)) (iI (aN a : Int)) (iI (cons a : Int)) (plM 0 u) = some (.inl (plM (0 + 1) u')) ∧ plI a c p (0 + 1) u' := by
  obtain ⟨cost, s, ss, pa, pl, tr, ps, hi0, h0, h1, h2, h3, h4⟩ := u
  obtain ⟨hs, ⟨k, hk⟩, hc1, hc2, hmin⟩ := hI
  dsimp only at hs hk hc1 hc2 hmin
  obtain ⟨-, hl, hc⟩ := id hs
  have hb := ha.b
  have hv := ha.p hp
  have hcl := cons_le a
  obtain ⟨G, hG⟩ := LK_ex hl ha
  obtain ⟨g1, g2, -⟩ := sC_first hsome
  obtain ⟨r1, r2, r3⟩ := rch_iff.mp g1
  have hX := ab_b x
  have hY := ab_b y
  have l0 := least_0 ha hp hsome
  obtain ⟨v0, v1, v2⟩ := lsv_some (a := a) (p := p) (aim := 0) hsome
  obtain ⟨pl1, tr1, ps1, e1⟩ := z_least hl ha hp (aim := 0) (w := 0) (by omega) (by omega) pl tr ps
  obtain ⟨pl2, tr2, ps2, e2⟩ := z_least hl ha hp (aim := 0) (w := 1) (by omega) (by omega) pl1 tr1 ps1
  obtain ⟨pl3, tr3, ps3, e3⟩ := z_least hl ha hp (aim := 0) (w := 2) (by omega) (by omega) pl2 tr2 ps2
  rw [v0] at e1
  rw [v1] at e2
  rw [v2] at e3
  have ei : iI ((0 : Nat) : Int) = (0 : Int32) := rfl
  have e1 : f_X7_leastShift s pl tr ps (iI (p : Int)) (0 : Int32) (0 : Int32) = _ := e1
  have e2 : f_X7_leastShift s pl1 tr1 ps1 (iI (p : Int)) (0 : Int32) (1 : Int32) = _ := e2
  have e3 : f_X7_leastShift s pl2 tr2 ps2 (iI (p : Int)) (0 : Int32) (2 : Int32) = _ := e3
  have p8 := fun ss pa => z_piece8 hl ha hG hp ss pa
  -- the shift
  obtain ⟨s', t0, t1, t2, t3, t4, t5, k', e5, hs', hK', hU⟩ := z_shift hs hk h0 h1 h2 h3 h4 hp (dx := x) (dy := y) (by omega) (by omega) r1
  obtain ⟨ha', hl', hc'⟩ := id hs'
  obtain ⟨G', hG'⟩ := LK_ex hl' ha'
  have hcl' := cons_le (aSh a p x y)
  have hN' : aN (aSh a p x y) = aN a := rfl
  have p8' := fun ss pa => z_piece8 hl' ha' hG' (p := p) hp ss pa
  rw [bI_t r2] at p8'
  obtain ⟨s2, hi2, e6, q6, hK2⟩ := hU s'
  have hs2 := hs.eq q6
  obtain ⟨-, hl2, hc2'⟩ := id hs2
  obtain ⟨G2, hG2⟩ := LK_ex hl2 ha
  have hkb := hK2.b
  have f0 : ((0 : Int32) = 0) = True := eq_true rfl
  have f1 : ((0 : Int32) = 1) = False := eq_false (by decide)
  have f2 : ((0 : Int32) = 2) = False := eq_false (by decide)
  have f3 : ((3 : Int32) ≤ 0) = False := eq_false (by decide)
  have f4 : (iI (ab x + ab y) = (-109 : Int32)) = False := eq_false (fun z => by
    have := (iI_eq (by omega) (by omega) (by omega) (by omega)).mp (show iI (ab x + ab y) = iI (-109) from z)
    omega)
  have hmn := hmin 0 (by omega) (by omega) x y hsome
  have f5 : (iI (ab x + ab y) < iI cost) = False := eq_false (fun z => by
    have := (iI_lt (by omega) (by omega) (by omega) (by omega)).mp z
    omega)
  have f6 : ((8 : Int32) < iI (ab x + ab y)) = False := eq_false (fun z => by
    have := (iI_lt (a := 8) (by omega) (by omega) (by omega) (by omega)).mp z
    omega)
  have f7 : (iI (ab x + ab y) = 0) ↔ ab x + ab y = 0 := iI_eq (b := 0) (by omega) (by omega) (by omega) (by omega)
  have f8 : ((1 : Int32) = 1) = True := eq_true rfl
  have f9 : (iI (k' : Int) < (0 : Int32)) = False := eq_false (fun z => by
    have := (iI_lt (by omega) (by omega) (by omega) (by omega)).mp (show iI (k' : Int) < iI 0 from z)
    omega)
  have a1 := absI (x := x) (by omega)
  have a2 := absI (x := y) (by omega)
  have fin : ∀ (cost' : Int) (ss' : SiS) (pa' : PaS), cost' = ab x + ab y → plI a c p (0 + 1) (cost', s2, ss', pa', pl3, tr3, ps3, hi2, t1, t2, t3, t4, t5) := by
    intro cost' ss' pa' ec
    subst ec
    refine ⟨hs2, ⟨k', hK2⟩, by show 0 ≤ ab x + ab y; omega, by show ab x + ab y ≤ 8; omega, fun j hj1 hj2 x' y' hj => ?_⟩
    exact aim_le2 (i := 0) (by omega) (by omega) hj2 hsome hj
  have ec : ∀ i : Nat, plM i = fun u => (iI u.1, iI (i : Int), u.2) := fun _ => rfl
  have hb0 : (iI (ab x + ab y) = 0) ↔ (bI (con a p = true) = 1) := by
    rw [f7, l0]
    by_cases cc : con a p = true
    · rw [bI_t cc]
      exact ⟨fun _ => rfl, fun _ => ⟨cc, Nat.zero_le _⟩⟩
    · rw [bI_f cc]
      exact ⟨fun z => absurd z.1 cc, fun z => absurd z (by decide)⟩
  unfold plM
  dsimp only
  rw [b_L_plans_34, ei]
  simp only [g_L_plans_196, g_L_plans_218, g_L_plans_251, g_L_plans_304, g_L_plans_320, f0, f1, f2, f3, f4, f5, f6, e1, e2, e3, a1, a2, iI_add, ob_some, ↓reduceIte, Sum.elim_inr, ei, p8, z_count7 hl ha hG, hc, e5, p8', z_count7 hl' ha' hG', hc', e6, f8, f9, z_count7 hl2 ha hG2, hc2', z_count3 hl2 ha hG2, z_count3 hl' ha' hG']
  rw [two_b hb0]
  simp only [g_L_plans_196, g_L_plans_218, g_L_plans_251, g_L_plans_304, g_L_plans_320, f0, f1, f2, f3, f4, f5, f6, e1, e2, e3, a1, a2, iI_add, ob_some, ↓reduceIte, Sum.elim_inr, ei, z_count7 hl ha hG, hc, e5, p8', z_count7 hl' ha' hG', hc', e6, f8, f9, z_count7 hl2 ha hG2, hc2', z_count3 hl2 ha hG2, z_count3 hl' ha' hG']
  exact ⟨(ab x + ab y, s2, _, _, pl3, tr3, ps3, hi2, t1, t2, t3, t4, t5), rfl, fin _ _ _ rfl⟩
set_option maxHeartbeats 1000000 in
theorem pl_some1 {c : Int} {p : Nat} (ha : AOK a) (hp : p < aN a) (tx : TxS) {u : PLT} (hI : plI a c p 1 u) {x y : Int} (hsome : sC (rchN a p (need a 1)) 9 = some (x, y)) : ∃ u', b_L_plans_34 tx (iI (p : Int)) (iI (aN a : Int)) (iI (cons a : Int)) (plM 1 u) = some (.inl (plM (1 + 1) u')) ∧ plI a c p (1 + 1) u' := by
  obtain ⟨cost, s, ss, pa, pl, tr, ps, hi0, h0, h1, h2, h3, h4⟩ := u
  obtain ⟨hs, ⟨k, hk⟩, hc1, hc2, hmin⟩ := hI
  dsimp only at hs hk hc1 hc2 hmin
  obtain ⟨-, hl, hc⟩ := id hs
  have hb := ha.b
  have hv := ha.p hp
  have hcl := cons_le a
  obtain ⟨G, hG⟩ := LK_ex hl ha
  obtain ⟨g1, g2, -⟩ := sC_first hsome
  obtain ⟨r1, r2, r3⟩ := rch_iff.mp g1
  have hX := ab_b x
  have hY := ab_b y
  have l0 := least_0 ha hp hsome
  obtain ⟨v0, v1, v2⟩ := lsv_some (a := a) (p := p) (aim := 1) hsome
  obtain ⟨pl1, tr1, ps1, e1⟩ := z_least hl ha hp (aim := 1) (w := 0) (by omega) (by omega) pl tr ps
  obtain ⟨pl2, tr2, ps2, e2⟩ := z_least hl ha hp (aim := 1) (w := 1) (by omega) (by omega) pl1 tr1 ps1
  obtain ⟨pl3, tr3, ps3, e3⟩ := z_least hl ha hp (aim := 1) (w := 2) (by omega) (by omega) pl2 tr2 ps2
  rw [v0] at e1
  rw [v1] at e2
  rw [v2] at e3
  have ei : iI ((1 : Nat) : Int) = (1 : Int32) := rfl
  have e1 : f_X7_leastShift s pl tr ps (iI (p : Int)) (1 : Int32) (0 : Int32) = _ := e1
  have e2 : f_X7_leastShift s pl1 tr1 ps1 (iI (p : Int)) (1 : Int32) (1 : Int32) = _ := e2
  have e3 : f_X7_leastShift s pl2 tr2 ps2 (iI (p : Int)) (1 : Int32) (2 : Int32) = _ := e3
  have p8 := fun ss pa => z_piece8 hl ha hG hp ss pa
  -- the shift
  obtain ⟨s', t0, t1, t2, t3, t4, t5, k', e5, hs', hK', hU⟩ := z_shift hs hk h0 h1 h2 h3 h4 hp (dx := x) (dy := y) (by omega) (by omega) r1
  obtain ⟨ha', hl', hc'⟩ := id hs'
  obtain ⟨G', hG'⟩ := LK_ex hl' ha'
  have hcl' := cons_le (aSh a p x y)
  have hN' : aN (aSh a p x y) = aN a := rfl
  have p8' := fun ss pa => z_piece8 hl' ha' hG' (p := p) hp ss pa
  rw [bI_t r2] at p8'
  obtain ⟨s2, hi2, e6, q6, hK2⟩ := hU s'
  have hs2 := hs.eq q6
  obtain ⟨-, hl2, hc2'⟩ := id hs2
  obtain ⟨G2, hG2⟩ := LK_ex hl2 ha
  have hkb := hK2.b
  have f0 : ((1 : Int32) = 0) = False := eq_false (by decide)
  have f1 : ((1 : Int32) = 1) = True := eq_true rfl
  have f2 : ((1 : Int32) = 2) = False := eq_false (by decide)
  have f3 : ((3 : Int32) ≤ 1) = False := eq_false (by decide)
  have f4 : (iI (ab x + ab y) = (-109 : Int32)) = False := eq_false (fun z => by
    have := (iI_eq (by omega) (by omega) (by omega) (by omega)).mp (show iI (ab x + ab y) = iI (-109) from z)
    omega)
  have hmn := hmin 1 (by omega) (by omega) x y hsome
  have f5 : (iI (ab x + ab y) < iI cost) = False := eq_false (fun z => by
    have := (iI_lt (by omega) (by omega) (by omega) (by omega)).mp z
    omega)
  have f6 : ((8 : Int32) < iI (ab x + ab y)) = False := eq_false (fun z => by
    have := (iI_lt (a := 8) (by omega) (by omega) (by omega) (by omega)).mp z
    omega)
  have f7 : (iI (ab x + ab y) = 0) ↔ ab x + ab y = 0 := iI_eq (b := 0) (by omega) (by omega) (by omega) (by omega)
  have f8 : ((1 : Int32) = 1) = True := eq_true rfl
  have f9 : (iI (k' : Int) < (0 : Int32)) = False := eq_false (fun z => by
    have := (iI_lt (by omega) (by omega) (by omega) (by omega)).mp (show iI (k' : Int) < iI 0 from z)
    omega)
  have a1 := absI (x := x) (by omega)
  have a2 := absI (x := y) (by omega)
  have fin : ∀ (cost' : Int) (ss' : SiS) (pa' : PaS), cost' = ab x + ab y → plI a c p (1 + 1) (cost', s2, ss', pa', pl3, tr3, ps3, hi2, t1, t2, t3, t4, t5) := by
    intro cost' ss' pa' ec
    subst ec
    refine ⟨hs2, ⟨k', hK2⟩, by show 0 ≤ ab x + ab y; omega, by show ab x + ab y ≤ 8; omega, fun j hj1 hj2 x' y' hj => ?_⟩
    exact aim_le2 (i := 1) (by omega) (by omega) hj2 hsome hj
  have ec : ∀ i : Nat, plM i = fun u => (iI u.1, iI (i : Int), u.2) := fun _ => rfl
  have g8 : (iI (cons (aSh a p x y) : Int) < iI (cons a : Int)) = False := by
    have hn : need a 1 = cons a := rfl
    rw [hn] at r3
    exact eq_false (fun z => by
      have := (iI_lt (by omega) (by omega) (by omega) (by omega)).mp z
      omega)
  unfold plM
  dsimp only
  rw [b_L_plans_34, ei]
  by_cases cc : con a p = true
  · have z0 : (iI (ab x + ab y) = 0) = True := eq_true (f7.mpr (l0.mpr ⟨cc, Nat.le_refl _⟩))
    rw [bI_t cc] at p8
    simp only [g_L_plans_196, g_L_plans_218, g_L_plans_251, g_L_plans_304, g_L_plans_320, f0, f1, f2, f3, f4, f5, f6, e1, e2, e3, a1, a2, iI_add, ob_some, ↓reduceIte, Sum.elim_inr, ei, p8, z0, z_count7 hl ha hG, hc, e5, p8', z_count7 hl' ha' hG', hc', e6, f8, f9, z_count7 hl2 ha hG2, hc2', z_count3 hl2 ha hG2, z_count3 hl' ha' hG', g8]
    exact ⟨(ab x + ab y, s2, _, _, pl3, tr3, ps3, hi2, t1, t2, t3, t4, t5), rfl, fin _ _ _ rfl⟩
  · rw [bI_f cc] at p8
    have z0 : ((0 : Int32) = 1) = False := eq_false (by decide)
    simp only [g_L_plans_196, g_L_plans_218, g_L_plans_251, g_L_plans_304, g_L_plans_320, f0, f1, f2, f3, f4, f5, f6, e1, e2, e3, a1, a2, iI_add, ob_some, ↓reduceIte, Sum.elim_inr, ei, p8, z0, z_count7 hl ha hG, hc, e5, p8', z_count7 hl' ha' hG', hc', e6, f8, f9, z_count7 hl2 ha hG2, hc2', z_count3 hl2 ha hG2, z_count3 hl' ha' hG', g8]
    exact ⟨(ab x + ab y, s2, _, _, pl3, tr3, ps3, hi2, t1, t2, t3, t4, t5), rfl, fin _ _ _ rfl⟩
set_option maxHeartbeats 1000000 in
theorem pl_some2 {c : Int} {p : Nat} (ha : AOK a) (hp : p < aN a) (tx : TxS) {u : PLT} (hI : plI a c p 2 u) {x y : Int} (hsome : sC (rchN a p (need a 2)) 9 = some (x, y)) : ∃ u', b_L_plans_34 tx (iI (p : Int)) (iI (aN a : Int)) (iI (cons a : Int)) (plM 2 u) = some (.inl (plM (2 + 1) u')) ∧ plI a c p (2 + 1) u' := by
  obtain ⟨cost, s, ss, pa, pl, tr, ps, hi0, h0, h1, h2, h3, h4⟩ := u
  obtain ⟨hs, ⟨k, hk⟩, hc1, hc2, hmin⟩ := hI
  dsimp only at hs hk hc1 hc2 hmin
  obtain ⟨-, hl, hc⟩ := id hs
  have hb := ha.b
  have hv := ha.p hp
  have hcl := cons_le a
  obtain ⟨G, hG⟩ := LK_ex hl ha
  obtain ⟨g1, g2, -⟩ := sC_first hsome
  obtain ⟨r1, r2, r3⟩ := rch_iff.mp g1
  have hX := ab_b x
  have hY := ab_b y
  have l0 := least_0 ha hp hsome
  obtain ⟨v0, v1, v2⟩ := lsv_some (a := a) (p := p) (aim := 2) hsome
  obtain ⟨pl1, tr1, ps1, e1⟩ := z_least hl ha hp (aim := 2) (w := 0) (by omega) (by omega) pl tr ps
  obtain ⟨pl2, tr2, ps2, e2⟩ := z_least hl ha hp (aim := 2) (w := 1) (by omega) (by omega) pl1 tr1 ps1
  obtain ⟨pl3, tr3, ps3, e3⟩ := z_least hl ha hp (aim := 2) (w := 2) (by omega) (by omega) pl2 tr2 ps2
  rw [v0] at e1
  rw [v1] at e2
  rw [v2] at e3
  have ei : iI ((2 : Nat) : Int) = (2 : Int32) := rfl
  have e1 : f_X7_leastShift s pl tr ps (iI (p : Int)) (2 : Int32) (0 : Int32) = _ := e1
  have e2 : f_X7_leastShift s pl1 tr1 ps1 (iI (p : Int)) (2 : Int32) (1 : Int32) = _ := e2
  have e3 : f_X7_leastShift s pl2 tr2 ps2 (iI (p : Int)) (2 : Int32) (2 : Int32) = _ := e3
  have p8 := fun ss pa => z_piece8 hl ha hG hp ss pa
  -- the shift
  obtain ⟨s', t0, t1, t2, t3, t4, t5, k', e5, hs', hK', hU⟩ := z_shift hs hk h0 h1 h2 h3 h4 hp (dx := x) (dy := y) (by omega) (by omega) r1
  obtain ⟨ha', hl', hc'⟩ := id hs'
  obtain ⟨G', hG'⟩ := LK_ex hl' ha'
  have hcl' := cons_le (aSh a p x y)
  have hN' : aN (aSh a p x y) = aN a := rfl
  have p8' := fun ss pa => z_piece8 hl' ha' hG' (p := p) hp ss pa
  rw [bI_t r2] at p8'
  obtain ⟨s2, hi2, e6, q6, hK2⟩ := hU s'
  have hs2 := hs.eq q6
  obtain ⟨-, hl2, hc2'⟩ := id hs2
  obtain ⟨G2, hG2⟩ := LK_ex hl2 ha
  have hkb := hK2.b
  have f0 : ((2 : Int32) = 0) = False := eq_false (by decide)
  have f1 : ((2 : Int32) = 1) = False := eq_false (by decide)
  have f2 : ((2 : Int32) = 2) = True := eq_true rfl
  have f3 : ((3 : Int32) ≤ 2) = False := eq_false (by decide)
  have f4 : (iI (ab x + ab y) = (-109 : Int32)) = False := eq_false (fun z => by
    have := (iI_eq (by omega) (by omega) (by omega) (by omega)).mp (show iI (ab x + ab y) = iI (-109) from z)
    omega)
  have hmn := hmin 2 (by omega) (by omega) x y hsome
  have f5 : (iI (ab x + ab y) < iI cost) = False := eq_false (fun z => by
    have := (iI_lt (by omega) (by omega) (by omega) (by omega)).mp z
    omega)
  have f6 : ((8 : Int32) < iI (ab x + ab y)) = False := eq_false (fun z => by
    have := (iI_lt (a := 8) (by omega) (by omega) (by omega) (by omega)).mp z
    omega)
  have f7 : (iI (ab x + ab y) = 0) ↔ ab x + ab y = 0 := iI_eq (b := 0) (by omega) (by omega) (by omega) (by omega)
  have f8 : ((1 : Int32) = 1) = True := eq_true rfl
  have f9 : (iI (k' : Int) < (0 : Int32)) = False := eq_false (fun z => by
    have := (iI_lt (by omega) (by omega) (by omega) (by omega)).mp (show iI (k' : Int) < iI 0 from z)
    omega)
  have a1 := absI (x := x) (by omega)
  have a2 := absI (x := y) (by omega)
  have fin : ∀ (cost' : Int) (ss' : SiS) (pa' : PaS), cost' = ab x + ab y → plI a c p (2 + 1) (cost', s2, ss', pa', pl3, tr3, ps3, hi2, t1, t2, t3, t4, t5) := by
    intro cost' ss' pa' ec
    subst ec
    refine ⟨hs2, ⟨k', hK2⟩, by show 0 ≤ ab x + ab y; omega, by show ab x + ab y ≤ 8; omega, fun j hj1 hj2 x' y' hj => ?_⟩
    exact aim_le2 (i := 2) (by omega) (by omega) hj2 hsome hj
  have ec : ∀ i : Nat, plM i = fun u => (iI u.1, iI (i : Int), u.2) := fun _ => rfl
  have hb2 : (iI (ab x + ab y) = 0) ↔ (iI (cons a : Int) = iI (aN a : Int)) := by
    rw [f7, l0, iI_eq (by omega) (by omega) (by omega) (by omega)]
    have hn : need a 2 = aN a := rfl
    rw [hn]
    constructor
    · intro z
      omega
    · intro z
      exact ⟨con_all hp (by omega), by omega⟩
  have g8 : (iI (cons (aSh a p x y) : Int) = iI (aN a : Int)) = True := by
    have hn : need a 2 = aN a := rfl
    rw [hn] at r3
    exact eq_true (by rw [show cons (aSh a p x y) = aN a by omega])
  unfold plM
  dsimp only
  rw [b_L_plans_34, ei]
  simp only [g_L_plans_196, g_L_plans_218, g_L_plans_251, g_L_plans_304, g_L_plans_320, f0, f1, f2, f3, f4, f5, f6, e1, e2, e3, a1, a2, iI_add, ob_some, ↓reduceIte, Sum.elim_inr, ei, p8, z_count7 hl ha hG, hc, e5, p8', z_count7 hl' ha' hG', hc', e6, f8, f9, z_count7 hl2 ha hG2, hc2', z_count3 hl2 ha hG2, z_count3 hl' ha' hG', g8]
  rw [two_b hb2]
  simp only [g_L_plans_196, g_L_plans_218, g_L_plans_251, g_L_plans_304, g_L_plans_320, f0, f1, f2, f3, f4, f5, f6, e1, e2, e3, a1, a2, iI_add, ob_some, ↓reduceIte, Sum.elim_inr, ei, z_count7 hl ha hG, hc, e5, p8', z_count7 hl' ha' hG', hc', e6, f8, f9, z_count7 hl2 ha hG2, hc2', z_count3 hl2 ha hG2, z_count3 hl' ha' hG', g8]
  exact ⟨(ab x + ab y, s2, _, _, pl3, tr3, ps3, hi2, t1, t2, t3, t4, t5), rfl, fin _ _ _ rfl⟩
theorem pl_loop {c : Int} {p : Nat} (ha : AOK a) (hp : p < aN a) (tx : TxS) {s : LyS} {hi : HiS} {k : Nat} (hs : CS s a c) (hH : HK hi k) (ss : SiS) (pa : PaS) (pl : PlS) (tr : LyS) (ps : SiS) (h0 h1 h2 h3 h4 : LyS) : ∃ z1 z2 s' ss' pa' pl' tr' ps' hi' h0' h1' h2' h3' h4' k', x_loop (b_L_plans_34 tx (iI (p : Int)) (iI (aN a : Int)) (iI (cons a : Int))) x_fuel ((0 : Int32), (0 : Int32), s, ss, pa, pl, tr, ps, hi, h0, h1, h2, h3, h4) = some (.inr (z1, z2, s', ss', pa', pl', tr', ps', hi', h0', h1', h2', h3', h4')) ∧ CS s' a c ∧ HK hi' k' := by
  have key := x_for (B := b_L_plans_34 tx (iI (p : Int)) (iI (aN a : Int)) (iI (cons a : Int))) plM (plI a c p) 3 (fun b => ∃ z1 z2 s' ss' pa' pl' tr' ps' hi' h0' h1' h2' h3' h4' k', b = Sum.inr (z1, z2, s', ss', pa', pl', tr', ps', hi', h0', h1', h2', h3', h4') ∧ CS s' a c ∧ HK hi' k')
    (by
      intro i u hi hI
      left
      cases e : sC (rchN a p (need a (i : Int))) 9 with
      | none => exact pl_none ha hp tx hi hI e
      | some r =>
        obtain ⟨x, y⟩ := r
        rcases (show i = 0 ∨ i = 1 ∨ i = 2 by omega) with rfl | rfl | rfl
        · exact pl_some0 ha hp tx hI e
        · exact pl_some1 ha hp tx hI e
        · exact pl_some2 ha hp tx hI e)
    (by
      rintro ⟨cost, s, ss, pa, pl, tr, ps, hi0, h0, h1, h2, h3, h4⟩ ⟨hs, ⟨k, hk⟩, -⟩
      unfold plM
      dsimp only at hs hk ⊢
      rw [b_L_plans_34, if_pos (by decide)]
      exact ⟨_, rfl, _, _, _, _, _, _, _, _, _, _, _, _, _, _, k, rfl, hs, hk⟩)
    (0, s, ss, pa, pl, tr, ps, hi, h0, h1, h2, h3, h4) ⟨hs, ⟨k, hH⟩, Int.le_refl _, by show (0 : Int) ≤ 8; omega, fun j _ _ x y _ => by
      have hX := ab_b x
      have hY := ab_b y
      show (0 : Int) ≤ ab x + ab y
      omega⟩ (by omega)
  obtain ⟨b, e, z1, z2, s', ss', pa', pl', tr', ps', hi', h0', h1', h2', h3', h4', k', rfl, g⟩ := key
  exact ⟨z1, z2, s', ss', pa', pl', tr', ps', hi', h0', h1', h2', h3', h4', k', e, g⟩
theorem z_plans {c : Int} (ha : AOK a) {p : Nat} (hp : p < aN a) (tx : TxS) {s : LyS} {hi : HiS} {k : Nat} (hs : CS s a c) (hH : HK hi k) (ss : SiS) (pa : PaS) (pl : PlS) (tr : LyS) (ps : SiS) (h0 h1 h2 h3 h4 : LyS) : ∃ s' ss' pa' pl' tr' ps' hi' h0' h1' h2' h3' h4' k', f_L_plans s ss pa pl tr ps hi h0 h1 h2 h3 h4 tx (iI (p : Int)) = some ((1 : Int32), s', ss', pa', pl', tr', ps', hi', h0', h1', h2', h3', h4') ∧ CS s' a c ∧ HK hi' k' := by
  have hb := ha.b
  obtain ⟨l0, hl0, rfl⟩ := ha.sur hp
  obtain ⟨-, hl, hc⟩ := id hs
  obtain ⟨G, hG⟩ := LK_ex hl ha
  obtain ⟨v, tr1, ps1, e1, hv⟩ := z_layerFor hl ha hl0 tr ps
  obtain ⟨z1, z2, s2, ss2, pa2, pl2, tr2, ps2, t0, t1, t2, t3, t4, t5, k2, e2, hs2, hK2⟩ := pl_loop ha hp tx hs hH (G (G (G ss))) pa pl tr1 ps1 h0 h1 h2 h3 h4
  obtain ⟨-, hl2, hc2⟩ := id hs2
  obtain ⟨G2, hG2⟩ := LK_ex hl2 ha
  have p6 := fun ss pa => z_piece6 hl ha hG hp ss pa
  rw [lyr_at ha hl0] at p6
  have p8 := fun ss pa => z_piece8 hl2 ha hG2 hp ss pa
  have n10 : ((0 : Int32) = 1) = False := eq_false (by decide)
  have n1 : ((1 : Int32) = 1) = True := eq_true rfl
  have n0 : ((0 : Int32) = 0) = True := eq_true rfl
  -- a piece that is content finds its layer, at the latest
  have hown : con a (aO a l0) = true → con (aMov a l0 l0) (aO a l0) = true := fun z => by rw [aMov_same]; exact z
  rcases hv with ⟨j, rfl, hj, hcj, hmin⟩ | ⟨rfl, hno⟩
  · have f1 : (iI (j : Int) = (-109 : Int32)) = False := eq_false (fun z => by
      have := (iI_eq (by omega) (by omega) (by omega) (by omega)).mp (show iI (j : Int) = iI (-109) from z)
      omega)
    obtain ⟨s3, u0, u1, u2, u3, u4, u5, k3, e3, hs3, hK3, hU3⟩ := z_setLayer hs2 hK2 t1 t2 t3 t4 t5 hl0 hj
    obtain ⟨ha3, hl3, hc3⟩ := id hs3
    obtain ⟨G3, hG3⟩ := LK_ex hl3 ha3
    have p8' := fun ss pa => z_piece8 hl3 ha3 hG3 (p := aO a l0) hp ss pa
    rw [bI_t hcj] at p8'
    obtain ⟨s4, hi4, e4, q4, hK4⟩ := hU3 s3
    have hs4 := hs2.eq q4
    obtain ⟨-, hl4, hc4⟩ := id hs4
    obtain ⟨G4, hG4⟩ := LK_ex hl4 ha
    have p6' := fun ss pa => z_piece6 hl4 ha hG4 hp ss pa
    rw [lyr_at ha hl0] at p6'
    have p8'' := fun ss pa => z_piece8 hl4 ha hG4 hp ss pa
    have hkb := hK4.b
    have f2 : (iI (k3 : Int) < (0 : Int32)) = False := eq_false (fun z => by
      have := (iI_lt (by omega) (by omega) (by omega) (by omega)).mp (show iI (k3 : Int) < iI 0 from z)
      omega)
    by_cases cc : con a (aO a l0) = true
    · have hle : j ≤ l0 := by
        by_cases d : l0 < j
        · exact absurd (hown cc) (hmin l0 d)
        · omega
      have f3 : (iI (l0 : Int) < iI (j : Int)) = False := eq_false (fun z => by
        have := (iI_lt (by omega) (by omega) (by omega) (by omega)).mp z
        omega)
      rw [bI_t cc] at p8''
      unfold f_L_plans
      simp only [g_L_plans_417, g_L_plans_439, g_L_plans_460, e1, ob_some, p6, z_count3 hl ha hG, z_count0 hl ha hG, e2, Sum.elim_inr, f1, ↓reduceIte, e3, p8', n1, e4, f2, p6', p8'', f3]
      exact ⟨s4, _, _, _, _, _, hi4, _, _, _, _, _, k3, rfl, hs4, hK4⟩
    · rw [bI_f cc] at p8''
      unfold f_L_plans
      simp only [g_L_plans_417, g_L_plans_439, g_L_plans_460, e1, ob_some, p6, z_count3 hl ha hG, z_count0 hl ha hG, e2, Sum.elim_inr, f1, ↓reduceIte, e3, p8', n1, e4, f2, p6', p8'', n10]
      exact ⟨s4, _, _, _, _, _, hi4, _, _, _, _, _, k3, rfl, hs4, hK4⟩
  · have f1 : (iI (-109) = (-109 : Int32)) = True := eq_true rfl
    have hnc : ¬ con a (aO a l0) = true := fun z => hno l0 hl0 (hown z)
    rw [bI_f hnc] at p8
    have el : iI (aN a : Int) - (1 : Int32) = iI ((aN a - 1 : Nat) : Int) := by
      rw [iL_1, iI_sub]
      congr 1
      omega
    obtain ⟨s3, u0, u1, u2, u3, u4, u5, k3, e3, hs3, hK3, hU3⟩ := z_setLayer hs2 hK2 t1 t2 t3 t4 t5 hl0 (l1 := aN a - 1) (by omega)
    obtain ⟨ha3, hl3, hc3⟩ := id hs3
    obtain ⟨G3, hG3⟩ := LK_ex hl3 ha3
    have p8' := fun ss pa => z_piece8 hl3 ha3 hG3 (p := aO a l0) hp ss pa
    rw [bI_f (hno (aN a - 1) (by omega))] at p8'
    obtain ⟨s4, hi4, e4, q4, hK4⟩ := hU3 s3
    have hs4 := hs2.eq q4
    have hkb := hK4.b
    have f2 : (iI (k3 : Int) < (0 : Int32)) = False := eq_false (fun z => by
      have := (iI_lt (by omega) (by omega) (by omega) (by omega)).mp (show iI (k3 : Int) < iI 0 from z)
      omega)
    unfold f_L_plans
    simp only [g_L_plans_417, g_L_plans_439, g_L_plans_460, e1, ob_some, p6, z_count3 hl ha hG, z_count0 hl ha hG, e2, Sum.elim_inr, f1, ↓reduceIte, p8, n10, el, e3, p8', n0, e4, f2]
    exact ⟨s4, _, _, _, _, _, hi4, _, _, _, _, _, k3, rfl, hs4, hK4⟩
end ZX
