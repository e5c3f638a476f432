/-! the law: what the tables say of its start -/
theorem lw_in {w : Cond} {k : Nat} (h : tables_1[k]? = some w) : w ∈ lw_tbl := List.mem_append_right _ (List.mem_of_getElem? h)
theorem lw_inst0 : (.instantiable RX0 3 : Cond) ∈ lw_tbl := lw_in (k := 128) (by decide +kernel)
theorem lw_inst1 : (.instantiable RX1 6 : Cond) ∈ lw_tbl := lw_in (k := 22) (by decide +kernel)
theorem lw_inst2 : (.instantiable RX2 5 : Cond) ∈ lw_tbl := lw_in (k := 80) (by decide +kernel)
theorem lw_inst3 : (.instantiable RX3 5 : Cond) ∈ lw_tbl := lw_in (k := 102) (by decide +kernel)
theorem lw_inst4 : (.instantiable RX4 5 : Cond) ∈ lw_tbl := lw_in (k := 147) (by decide +kernel)
theorem lw_inst5 : (.instantiable RX5 4 : Cond) ∈ lw_tbl := lw_in (k := 48) (by decide +kernel)
theorem lw_inst6 : (.instantiable RX6 2 : Cond) ∈ lw_tbl := lw_in (k := 67) (by decide +kernel)
theorem lw_inst7 : (.instantiable RX7 8 : Cond) ∈ lw_tbl := lw_in (k := 14) (by decide +kernel)
theorem lw_aI : (.arrayClass .int : Cond) ∈ lw_tbl := lw_in (k := 46) (by decide +kernel)
theorem lw_aL : (.arrayOver (.object RX1) : Cond) ∈ lw_tbl := lw_in (k := 134) (by decide +kernel)
theorem lw_nm0 : (.methodLinkNest RX1 41 yX7_put "LaidPieces" : Cond) ∈ lw_tbl := lw_in (k := 295) (by decide +kernel)
theorem lw_nm1 : (.methodLinkNest RX1 45 yX7_at "LaidPieces" : Cond) ∈ lw_tbl := lw_in (k := 234) (by decide +kernel)
theorem lw_nm2 : (.methodLinkNest RX1 64 yX7_fits "LaidPieces" : Cond) ∈ lw_tbl := lw_in (k := 340) (by decide +kernel)
theorem lw_nm3 : (.methodLinkNest RX2 35 yX7_put "LaidPieces" : Cond) ∈ lw_tbl := lw_in (k := 429) (by decide +kernel)
theorem lw_nm4 : (.methodLinkNest RX2 39 yX7_at "LaidPieces" : Cond) ∈ lw_tbl := lw_in (k := 430) (by decide +kernel)
theorem lw_nm5 : (.methodLinkNest RX5 52 yX7_at "LaidPieces" : Cond) ∈ lw_tbl := lw_in (k := 249) (by decide +kernel)
theorem lw_nm6 : (.methodLinkNest RX5 60 yX7_put "LaidPieces" : Cond) ∈ lw_tbl := lw_in (k := 254) (by decide +kernel)
theorem lw_nm7 : (.methodLinkNest RX6 19 yX7_put "LaidPieces" : Cond) ∈ lw_tbl := lw_in (k := 625) (by decide +kernel)
theorem lw_sL : (.laysStatic "LaidPieces" "LOWEST" "[I" : Cond) ∈ lw_tbl := lw_in (k := 279) (by decide +kernel)
theorem lw_sH : (.laysStatic "LaidPieces" "HIGHEST" "[I" : Cond) ∈ lw_tbl := lw_in (k := 282) (by decide +kernel)
theorem lw_iP : (.initialized "LaidPieces" : Cond) ∈ lw_tbl := lw_in (k := 1) (by decide +kernel)
set_option maxHeartbeats 4000000 in
set_option maxRecDepth 100000 in
theorem law_world {p : Program} {s : State} {m : MethodId} {meth : Method} {c : Code} {b L : Nat} {xs : Nat → Int32} (C0 : lw_At p s m meth c b L xs) : ∃ (D : va_G) (aI aZ aL : ClassId) (X : xCtx), va_K D vwCl (xTy aI aZ aL) s ∧ xX X (fun z : Nat => s.heap.size ≤ z) s s.heap ∧ va_AO RX1 s ∧ X.2.2.1 = b ∧ X.2.2.2.1 = L := by
  obtain ⟨-, -, -, -, -, hts, hXs, hbl, -, hgv⟩ := C0
  have hg := flat_of_before _ hgv
  have hA : ∀ a : Nat, a < s.heap.size → ¬ (fun z : Nat => s.heap.size ≤ z) a := fun a h => Nat.not_le.mpr h
  obtain ⟨c0, i0, k0⟩ := u_known (C := RX0) (T := TX0) (N := 3) (n := 3) hts inX0 (hts _ lw_inst0)
  obtain ⟨c1, i1, k1⟩ := u_known (C := RX1) (T := TX1) (N := 6) (n := 6) hts inX1 (hts _ lw_inst1)
  obtain ⟨c2, i2, k2⟩ := u_known (C := RX2) (T := TX2) (N := 5) (n := 5) hts inX2 (hts _ lw_inst2)
  obtain ⟨c3, i3, k3⟩ := u_known (C := RX3) (T := TX3) (N := 5) (n := 5) hts inX3 (hts _ lw_inst3)
  obtain ⟨c4, i4, k4⟩ := u_known (C := RX4) (T := TX4) (N := 5) (n := 5) hts inX4 (hts _ lw_inst4)
  obtain ⟨c5, i5, k5⟩ := u_known (C := RX5) (T := TX5) (N := 4) (n := 4) hts inX5 (hts _ lw_inst5)
  obtain ⟨c6, i6, k6⟩ := u_known (C := RX6) (T := TX6) (N := 2) (n := 2) hts inX6 (hts _ lw_inst6)
  obtain ⟨c7, i7, k7⟩ := u_known (C := RX7) (T := TX7) (N := 8) (n := 8) hts inX7 (hts _ lw_inst7)
  obtain ⟨D, hD⟩ : ∃ D : va_G, ∀ (k : Nat) (q : vw_C), vwCl[k]? = some q → u_Kn s q.1 q.2.1 q.2.2 (D.1 k) (D.2 k) := by
    refine ⟨(fun k => if k = 0 then c0 else if k = 1 then c1 else if k = 2 then c2 else if k = 3 then c3 else if k = 4 then c4 else if k = 5 then c5 else if k = 6 then c6 else c7, fun k => if k = 0 then i0 else if k = 1 then i1 else if k = 2 then i2 else if k = 3 then i3 else if k = 4 then i4 else if k = 5 then i5 else if k = 6 then i6 else i7), ?_⟩
    intro k q hq
    match k, hq with
    | 0, hq => cases hq; exact k0
    | 1, hq => cases hq; exact k1
    | 2, hq => cases hq; exact k2
    | 3, hq => cases hq; exact k3
    | 4, hq => cases hq; exact k4
    | 5, hq => cases hq; exact k5
    | 6, hq => cases hq; exact k6
    | 7, hq => cases hq; exact k7
    | k + 8, hq => simp [vwCl] at hq
  obtain ⟨aI, kI, compI, hI1, hI2, hI3⟩ := Cond.arrayClass_spec (hts _ lw_aI)
  have hAO : va_AO RX1 s := va_AO.of (hts _ lw_aL)
  obtain ⟨compL, aL, kL, hL1, -, hL2, hL3, hL4⟩ := Cond.arrayOver_spec (hts _ lw_aL)
  have rI : ArrOfT s aI .int := fun n z => ⟨fun k h => (by cases h), kI, hI2, compI, hI3⟩
  have rL : ArrOfT s aL (.object RX1) := fun n z => ⟨fun k h => (by cases h), kL, hL2, compL, hL3⟩
  have vI : va_RA s aI .int := hI1
  have vL : va_RA s aL (.object RX1) := ⟨kL, compL, hL2, hL3, hL1, hL4⟩
  have hK : va_K D vwCl (xTy aI aI aL) s := by
    refine ⟨hD, fun k q hq => ?_⟩
    match k, hq with
    | 0, hq => cases hq; exact ⟨rI, vI⟩
    | 1, hq => cases hq; exact ⟨rI, vI⟩
    | 2, hq => cases hq; exact ⟨rL, vL⟩
    | k + 3, hq => simp [xTy] at hq
  obtain ⟨tL, eL, TL⟩ := va_Tof (s := s) (args := #[Value.ref b]) (tm := (Term.static "LaidPieces" "LOWEST" "[I")) (ty := .int) (N := 6) (f := fun j => .int (xLow j)) (A := fun z : Nat => s.heap.size ≤ z) (by decide) (hg (.arrayOf (Term.static "LaidPieces" "LOWEST" "[I") .int) (by decide +kernel)) (va_eqt (hg (.eq (.length (Term.static "LaidPieces" "LOWEST" "[I")) (.int 6)) (by decide +kernel))) (fun j hj => by
    rcases (show j = 0 ∨ j = 1 ∨ j = 2 ∨ j = 3 ∨ j = 4 ∨ j = 5 by omega) with rfl | rfl | rfl | rfl | rfl | rfl
    · exact va_eqt (hg (.eq (.elem (Term.static "LaidPieces" "LOWEST" "[I") (.int 0)) (.int (-20))) (by decide +kernel))
    · exact va_eqt (hg (.eq (.elem (Term.static "LaidPieces" "LOWEST" "[I") (.int 1)) (.int (-20))) (by decide +kernel))
    · exact va_eqt (hg (.eq (.elem (Term.static "LaidPieces" "LOWEST" "[I") (.int 2)) (.int (1))) (by decide +kernel))
    · exact va_eqt (hg (.eq (.elem (Term.static "LaidPieces" "LOWEST" "[I") (.int 3)) (.int (1))) (by decide +kernel))
    · exact va_eqt (hg (.eq (.elem (Term.static "LaidPieces" "LOWEST" "[I") (.int 4)) (.int (0))) (by decide +kernel))
    · exact va_eqt (hg (.eq (.elem (Term.static "LaidPieces" "LOWEST" "[I") (.int 5)) (.int (0))) (by decide +kernel))) hA
  obtain ⟨tH, eH, TH⟩ := va_Tof (s := s) (args := #[Value.ref b]) (tm := (Term.static "LaidPieces" "HIGHEST" "[I")) (ty := .int) (N := 6) (f := fun j => .int (xHigh j)) (A := fun z : Nat => s.heap.size ≤ z) (by decide) (hg (.arrayOf (Term.static "LaidPieces" "HIGHEST" "[I") .int) (by decide +kernel)) (va_eqt (hg (.eq (.length (Term.static "LaidPieces" "HIGHEST" "[I")) (.int 6)) (by decide +kernel))) (fun j hj => by
    rcases (show j = 0 ∨ j = 1 ∨ j = 2 ∨ j = 3 ∨ j = 4 ∨ j = 5 by omega) with rfl | rfl | rfl | rfl | rfl | rfl
    · exact va_eqt (hg (.eq (.elem (Term.static "LaidPieces" "HIGHEST" "[I") (.int 0)) (.int (40))) (by decide +kernel))
    · exact va_eqt (hg (.eq (.elem (Term.static "LaidPieces" "HIGHEST" "[I") (.int 1)) (.int (40))) (by decide +kernel))
    · exact va_eqt (hg (.eq (.elem (Term.static "LaidPieces" "HIGHEST" "[I") (.int 2)) (.int (12))) (by decide +kernel))
    · exact va_eqt (hg (.eq (.elem (Term.static "LaidPieces" "HIGHEST" "[I") (.int 3)) (.int (12))) (by decide +kernel))
    · exact va_eqt (hg (.eq (.elem (Term.static "LaidPieces" "HIGHEST" "[I") (.int 4)) (.int (100))) (by decide +kernel))
    · exact va_eqt (hg (.eq (.elem (Term.static "LaidPieces" "HIGHEST" "[I") (.int 5)) (.int (3))) (by decide +kernel))) hA
  have zL := va_Zof (hts _ lw_sL) (hts _ lw_iP) eL hA
  have zH := va_Zof (hts _ lw_sH) (hts _ lw_iP) eH hA
  obtain ⟨scr, g1, g2, g3, g4, g5⟩ := hXs
  have TS : va_T .int b L (fun j => .int (xs j)) (fun z : Nat => s.heap.size ≤ z) s s.heap := ⟨scr, g1, g2, g3, Nat.le_of_eq g4.symm, by rw [g4], g5, hA b hbl⟩
  refine ⟨D, aI, aI, aL, (tL, tH, b, L, xs), hK, ⟨?_, trivial, zL, TL, zH, TH, TS⟩, hAO, rfl, rfl⟩
  intro k q hq
  match k, hq with
  | 0, hq => cases hq; exact va_Nw.of rfl (hts _ lw_nm0)
  | 1, hq => cases hq; exact va_Nw.of rfl (hts _ lw_nm1)
  | 2, hq => cases hq; exact va_Nw.of rfl (hts _ lw_nm2)
  | 3, hq => cases hq; exact va_Nw.of rfl (hts _ lw_nm3)
  | 4, hq => cases hq; exact va_Nw.of rfl (hts _ lw_nm4)
  | 5, hq => cases hq; exact va_Nw.of rfl (hts _ lw_nm5)
  | 6, hq => cases hq; exact va_Nw.of rfl (hts _ lw_nm6)
  | 7, hq => cases hq; exact va_Nw.of rfl (hts _ lw_nm7)
  | k + 8, hq => simp [xNestM] at hq
