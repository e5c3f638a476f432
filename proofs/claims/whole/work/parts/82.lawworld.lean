/-! the law: what the tables say of its start -/
theorem lw_in {w : Cond} {k : Nat} (h : tables_1[k]? = some w) : w ∈ lw_tbl := List.mem_append_right _ (List.mem_of_getElem? h)
theorem lw_inst0 : (.instantiable RX0 3 : Cond) ∈ lw_tbl := lw_in (k := 133) (by decide +kernel)
theorem lw_inst1 : (.instantiable RX1 6 : Cond) ∈ lw_tbl := lw_in (k := 27) (by decide +kernel)
theorem lw_inst2 : (.instantiable RX2 5 : Cond) ∈ lw_tbl := lw_in (k := 85) (by decide +kernel)
theorem lw_inst3 : (.instantiable RX3 5 : Cond) ∈ lw_tbl := lw_in (k := 107) (by decide +kernel)
theorem lw_inst4 : (.instantiable RX4 5 : Cond) ∈ lw_tbl := lw_in (k := 152) (by decide +kernel)
theorem lw_inst5 : (.instantiable RX5 4 : Cond) ∈ lw_tbl := lw_in (k := 53) (by decide +kernel)
theorem lw_inst6 : (.instantiable RX6 2 : Cond) ∈ lw_tbl := lw_in (k := 72) (by decide +kernel)
theorem lw_inst7 : (.instantiable RX7 8 : Cond) ∈ lw_tbl := lw_in (k := 19) (by decide +kernel)
theorem lw_inst8 : (.instantiable RX8 19 : Cond) ∈ lw_tbl := lw_in (k := 717) (by decide +kernel)
theorem lw_aI : (.arrayClass .int : Cond) ∈ lw_tbl := lw_in (k := 51) (by decide +kernel)
theorem lw_aZ : (.arrayClass .boolean : Cond) ∈ lw_tbl := lw_in (k := 780) (by decide +kernel)
theorem lw_aL : (.arrayOver (.object RX1) : Cond) ∈ lw_tbl := lw_in (k := 139) (by decide +kernel)
theorem lw_nm0 : (.methodLinkNest RX1 41 yX7_put "LaidPieces" : Cond) ∈ lw_tbl := lw_in (k := 300) (by decide +kernel)
theorem lw_nm1 : (.methodLinkNest RX1 45 yX7_at "LaidPieces" : Cond) ∈ lw_tbl := lw_in (k := 239) (by decide +kernel)
theorem lw_nm2 : (.methodLinkNest RX1 64 yX7_fits "LaidPieces" : Cond) ∈ lw_tbl := lw_in (k := 345) (by decide +kernel)
theorem lw_nm3 : (.methodLinkNest RX2 35 yX7_put "LaidPieces" : Cond) ∈ lw_tbl := lw_in (k := 599) (by decide +kernel)
theorem lw_nm4 : (.methodLinkNest RX2 39 yX7_at "LaidPieces" : Cond) ∈ lw_tbl := lw_in (k := 600) (by decide +kernel)
theorem lw_nm5 : (.methodLinkNest RX4 68 yX7_at "LaidPieces" : Cond) ∈ lw_tbl := lw_in (k := 525) (by decide +kernel)
theorem lw_nm6 : (.methodLinkNest RX4 81 yX7_isWithin "LaidPieces" : Cond) ∈ lw_tbl := lw_in (k := 443) (by decide +kernel)
theorem lw_nm7 : (.methodLinkNest RX5 52 yX7_at "LaidPieces" : Cond) ∈ lw_tbl := lw_in (k := 254) (by decide +kernel)
theorem lw_nm8 : (.methodLinkNest RX5 60 yX7_put "LaidPieces" : Cond) ∈ lw_tbl := lw_in (k := 259) (by decide +kernel)
theorem lw_nm9 : (.methodLinkNest RX6 19 yX7_put "LaidPieces" : Cond) ∈ lw_tbl := lw_in (k := 412) (by decide +kernel)
theorem lw_nf0 : (.fieldLinkNest RX4 64 "LaidPieces" "LOWEST" "[I" "LaidPieces" : Cond) ∈ lw_tbl := lw_in (k := 524) (by decide +kernel)
theorem lw_nf1 : (.fieldLinkNest RX4 72 "LaidPieces" "HIGHEST" "[I" "LaidPieces" : Cond) ∈ lw_tbl := lw_in (k := 526) (by decide +kernel)
theorem lw_sL : (.laysStatic "LaidPieces" "LOWEST" "[I" : Cond) ∈ lw_tbl := lw_in (k := 284) (by decide +kernel)
theorem lw_sH : (.laysStatic "LaidPieces" "HIGHEST" "[I" : Cond) ∈ lw_tbl := lw_in (k := 287) (by decide +kernel)
theorem lw_sC : (.laysStatic "java/lang/String" "COMPACT_STRINGS" "Z" : Cond) ∈ lw_tbl := lw_in (k := 469) (by decide +kernel)
theorem lw_sQ : (.laysStatic "jdk/internal/util/Preconditions" "SIOOBE_FORMATTER" "Ljava/util/function/BiFunction;" : Cond) ∈ lw_tbl := lw_in (k := 485) (by decide +kernel)
theorem lw_iP : (.initialized "LaidPieces" : Cond) ∈ lw_tbl := lw_in (k := 1) (by decide +kernel)
theorem lw_iS : (.initialized "java/lang/String" : Cond) ∈ lw_tbl := lw_in (k := 14) (by decide +kernel)
theorem lw_iQ : (.initialized "jdk/internal/util/Preconditions" : Cond) ∈ lw_tbl := lw_in (k := 16) (by decide +kernel)
theorem lw_str0 : (.stringRef RX4 31 "page" : Cond) ∈ lw_tbl := lw_in (k := 455) (by decide +kernel)
theorem lw_str1 : (.stringRef RX4 41 "piece" : Cond) ∈ lw_tbl := lw_in (k := 517) (by decide +kernel)
theorem lw_str2 : (.stringRef RX4 79 "frame" : Cond) ∈ lw_tbl := lw_in (k := 528) (by decide +kernel)
set_option maxHeartbeats 4000000 in
set_option maxRecDepth 100000 in
theorem law_world {p : Program} {s : State} {m : MethodId} {meth : Method} {c : Code} {b L : Nat} {xs : Nat → Int32} (C0 : lw_At p s m meth c b L xs) : ∃ (D : va_G) (aI aZ aL : ClassId) (X : xCtx), va_K D vwCl (xTy aI aZ aL) s ∧ xX X (fun z : Nat => s.heap.size ≤ z) s s.heap ∧ va_AO RX1 s := by
  obtain ⟨-, -, -, -, -, hts, -, -, -, hgv⟩ := C0
  have hg := flat_of_before _ hgv
  have hA : ∀ a : Nat, a < s.heap.size → ¬ (fun z : Nat => s.heap.size ≤ z) a := fun a h => Nat.not_le.mpr h
  obtain ⟨c0, i0, k0⟩ := u_known (C := RX0) (T := TX0) (N := 3) (n := 3) hts inX0 (hts _ lw_inst0)
  obtain ⟨c1, i1, k1⟩ := u_known (C := RX1) (T := TX1) (N := 6) (n := 6) hts inX1 (hts _ lw_inst1)
  obtain ⟨c2, i2, k2⟩ := u_known (C := RX2) (T := TX2) (N := 5) (n := 5) hts inX2 (hts _ lw_inst2)
  obtain ⟨c3, i3, k3⟩ := u_known (C := RX3) (T := TX3) (N := 5) (n := 5) hts inX3 (hts _ lw_inst3)
  obtain ⟨c4, i4, k4⟩ := u_known (C := RX4) (T := TX4) (N := 5) (n := 5) hts inX4 (hts _ lw_inst4)
  obtain ⟨c5, i5, k5⟩ := u_known (C := RX5) (T := TX5) (N := 4) (n := 4) hts inX5 (hts _ lw_inst5)
  obtain ⟨c6, i6, k6⟩ := u_known (C := RX6) (T := TX6) (N := 2) (n := 2) hts inX6 (hts _ lw_inst6)
  obtain ⟨c7, i7, k7⟩ := u_known (C := RX7) (T := TX7) (N := 8) (n := 8) hts inX7 (hts _ lw_inst7)
  obtain ⟨c8, i8, k8⟩ := u_known (C := RX8) (T := TX8) (N := 19) (n := 19) hts inX8 (hts _ lw_inst8)
  obtain ⟨D, hD⟩ : ∃ D : va_G, ∀ (k : Nat) (q : vw_C), vwCl[k]? = some q → u_Kn s q.1 q.2.1 q.2.2 (D.1 k) (D.2 k) := by
    refine ⟨(fun k => if k = 0 then c0 else if k = 1 then c1 else if k = 2 then c2 else if k = 3 then c3 else if k = 4 then c4 else if k = 5 then c5 else if k = 6 then c6 else if k = 7 then c7 else c8, fun k => if k = 0 then i0 else if k = 1 then i1 else if k = 2 then i2 else if k = 3 then i3 else if k = 4 then i4 else if k = 5 then i5 else if k = 6 then i6 else if k = 7 then i7 else i8), ?_⟩
    intro k q hq
    match k, hq with
    | 0, hq => cases hq; exact k0
    | 1, hq => cases hq; exact k1
    | 2, hq => cases hq; exact k2
    | 3, hq => cases hq; exact k3
    | 4, hq => cases hq; exact k4
    | 5, hq => cases hq; exact k5
    | 6, hq => cases hq; exact k6
    | 7, hq => cases hq; exact k7
    | 8, hq => cases hq; exact k8
    | k + 9, hq => simp [vwCl] at hq
  obtain ⟨aI, kI, compI, hI1, hI2, hI3⟩ := Cond.arrayClass_spec (hts _ lw_aI)
  obtain ⟨aZ, kZ, compZ, hZ1, hZ2, hZ3⟩ := Cond.arrayClass_spec (hts _ lw_aZ)
  have hAO : va_AO RX1 s := va_AO.of (hts _ lw_aL)
  obtain ⟨compL, aL, kL, hL1, -, hL2, hL3, hL4⟩ := Cond.arrayOver_spec (hts _ lw_aL)
  have rI : ArrOfT s aI .int := fun n z => ⟨fun k h => (by cases h), kI, hI2, compI, hI3⟩
  have rZ : ArrOfT s aZ .boolean := fun n z => ⟨fun k h => (by cases h), kZ, hZ2, compZ, hZ3⟩
  have rL : ArrOfT s aL (.object RX1) := fun n z => ⟨fun k h => (by cases h), kL, hL2, compL, hL3⟩
  have vI : va_RA s aI .int := hI1
  have vZ : va_RA s aZ .boolean := hZ1
  have vL : va_RA s aL (.object RX1) := ⟨kL, compL, hL2, hL3, hL1, hL4⟩
  have hK : va_K D vwCl (xTy aI aZ aL) s := by
    refine ⟨hD, fun k q hq => ?_⟩
    match k, hq with
    | 0, hq => cases hq; exact ⟨rI, vI⟩
    | 1, hq => cases hq; exact ⟨rZ, vZ⟩
    | 2, hq => cases hq; exact ⟨rL, vL⟩
    | k + 3, hq => simp [xTy] at hq
  obtain ⟨tL, eL, TL⟩ := va_Tof (s := s) (args := #[Value.ref b]) (tm := (Term.static "LaidPieces" "LOWEST" "[I")) (ty := .int) (N := 6) (f := fun j => .int (xLow j)) (A := fun z : Nat => s.heap.size ≤ z) (by decide) (hg (.arrayOf (Term.static "LaidPieces" "LOWEST" "[I") .int) (by decide +kernel)) (va_eqt (hg (.eq (.length (Term.static "LaidPieces" "LOWEST" "[I")) (.int 6)) (by decide +kernel))) (fun j hj => by
    rcases (show j = 0 ∨ j = 1 ∨ j = 2 ∨ j = 3 ∨ j = 4 ∨ j = 5 by omega) with rfl | rfl | rfl | rfl | rfl | rfl
    · exact va_eqt (hg (.eq (.elem (Term.static "LaidPieces" "LOWEST" "[I") (.int 0)) (.int (-20))) (by decide +kernel))
    · exact va_eqt (hg (.eq (.elem (Term.static "LaidPieces" "LOWEST" "[I") (.int 1)) (.int (-20))) (by decide +kernel))
    · exact va_eqt (hg (.eq (.elem (Term.static "LaidPieces" "LOWEST" "[I") (.int 2)) (.int (1))) (by decide +kernel))
    · exact va_eqt (hg (.eq (.elem (Term.static "LaidPieces" "LOWEST" "[I") (.int 3)) (.int (1))) (by decide +kernel))
    · exact va_eqt (hg (.eq (.elem (Term.static "LaidPieces" "LOWEST" "[I") (.int 4)) (.int (0))) (by decide +kernel))
    · exact va_eqt (hg (.eq (.elem (Term.static "LaidPieces" "LOWEST" "[I") (.int 5)) (.int (0))) (by decide +kernel))) hA
  obtain ⟨tH, eH, TH⟩ := va_Tof (s := s) (args := #[Value.ref b]) (tm := (Term.static "LaidPieces" "HIGHEST" "[I")) (ty := .int) (N := 6) (f := fun j => .int (xHigh j)) (A := fun z : Nat => s.heap.size ≤ z) (by decide) (hg (.arrayOf (Term.static "LaidPieces" "HIGHEST" "[I") .int) (by decide +kernel)) (va_eqt (hg (.eq (.length (Term.static "LaidPieces" "HIGHEST" "[I")) (.int 6)) (by decide +kernel))) (fun j hj => by
    rcases (show j = 0 ∨ j = 1 ∨ j = 2 ∨ j = 3 ∨ j = 4 ∨ j = 5 by omega) with rfl | rfl | rfl | rfl | rfl | rfl
    · exact va_eqt (hg (.eq (.elem (Term.static "LaidPieces" "HIGHEST" "[I") (.int 0)) (.int (40))) (by decide +kernel))
    · exact va_eqt (hg (.eq (.elem (Term.static "LaidPieces" "HIGHEST" "[I") (.int 1)) (.int (40))) (by decide +kernel))
    · exact va_eqt (hg (.eq (.elem (Term.static "LaidPieces" "HIGHEST" "[I") (.int 2)) (.int (12))) (by decide +kernel))
    · exact va_eqt (hg (.eq (.elem (Term.static "LaidPieces" "HIGHEST" "[I") (.int 3)) (.int (12))) (by decide +kernel))
    · exact va_eqt (hg (.eq (.elem (Term.static "LaidPieces" "HIGHEST" "[I") (.int 4)) (.int (100))) (by decide +kernel))
    · exact va_eqt (hg (.eq (.elem (Term.static "LaidPieces" "HIGHEST" "[I") (.int 5)) (.int (3))) (by decide +kernel))) hA
  have zL := va_Zof (hts _ lw_sL) (hts _ lw_iP) eL hA
  have zH := va_Zof (hts _ lw_sH) (hts _ lw_iP) eH hA
  have hex : ∀ i : Nat, i < 3 → (Cond.exactly (Term.string RX4 ([31, 41, 79].getD i 0)) "java/lang/String").before #[Value.ref b] s = true := by
    intro i hi
    rcases (show i = 0 ∨ i = 1 ∨ i = 2 by omega) with rfl | rfl | rfl
    · exact hg (.exactly (Term.string RX4 31) "java/lang/String") (by decide +kernel)
    · exact hg (.exactly (Term.string RX4 41) "java/lang/String") (by decide +kernel)
    · exact hg (.exactly (Term.string RX4 79) "java/lang/String") (by decide +kernel)
  have hco : ∀ i : Nat, i < 3 → (Cond.eq (.field (Term.string RX4 ([31, 41, 79].getD i 0)) "java/lang/String" "coder" "B") (.int 0)).before #[Value.ref b] s = true := by
    intro i hi
    rcases (show i = 0 ∨ i = 1 ∨ i = 2 by omega) with rfl | rfl | rfl
    · exact hg (.eq (.field (Term.string RX4 31) "java/lang/String" "coder" "B") (.int 0)) (by decide +kernel)
    · exact hg (.eq (.field (Term.string RX4 41) "java/lang/String" "coder" "B") (.int 0)) (by decide +kernel)
    · exact hg (.eq (.field (Term.string RX4 79) "java/lang/String" "coder" "B") (.int 0)) (by decide +kernel)
  have har : ∀ i : Nat, i < 3 → (Cond.arrayOf (.field (Term.string RX4 ([31, 41, 79].getD i 0)) "java/lang/String" "value" "[B") .byte).before #[Value.ref b] s = true := by
    intro i hi
    rcases (show i = 0 ∨ i = 1 ∨ i = 2 by omega) with rfl | rfl | rfl
    · exact hg (.arrayOf (.field (Term.string RX4 31) "java/lang/String" "value" "[B") .byte) (by decide +kernel)
    · exact hg (.arrayOf (.field (Term.string RX4 41) "java/lang/String" "value" "[B") .byte) (by decide +kernel)
    · exact hg (.arrayOf (.field (Term.string RX4 79) "java/lang/String" "value" "[B") .byte) (by decide +kernel)
  have hle : ∀ i : Nat, i < 3 → (Cond.eq (.length (.field (Term.string RX4 ([31, 41, 79].getD i 0)) "java/lang/String" "value" "[B")) (.int (Int32.ofNat (xStrL.getD i 0)))).before #[Value.ref b] s = true := by
    intro i hi
    rcases (show i = 0 ∨ i = 1 ∨ i = 2 by omega) with rfl | rfl | rfl
    · exact hg (.eq (.length (.field (Term.string RX4 31) "java/lang/String" "value" "[B")) (.int 4)) (by decide +kernel)
    · exact hg (.eq (.length (.field (Term.string RX4 41) "java/lang/String" "value" "[B")) (.int 5)) (by decide +kernel)
    · exact hg (.eq (.length (.field (Term.string RX4 79) "java/lang/String" "value" "[B")) (.int 5)) (by decide +kernel)
  have hel : ∀ i : Nat, i < 3 → ∀ j : Nat, j < xStrL.getD i 0 → (Cond.eq (.elem (.field (Term.string RX4 ([31, 41, 79].getD i 0)) "java/lang/String" "value" "[B") (.int (Int32.ofNat j))) (.int ((xStrB.getD i []).getD j 0))).before #[Value.ref b] s = true := by
    intro i hi j hj
    rcases (show i = 0 ∨ i = 1 ∨ i = 2 by omega) with rfl | rfl | rfl
    · have hj : j < 4 := hj
      rcases (show j = 0 ∨ j = 1 ∨ j = 2 ∨ j = 3 by omega) with rfl | rfl | rfl | rfl
      · exact hg (.eq (.elem (.field (Term.string RX4 31) "java/lang/String" "value" "[B") (.int 0)) (.int 112)) (by decide +kernel)
      · exact hg (.eq (.elem (.field (Term.string RX4 31) "java/lang/String" "value" "[B") (.int 1)) (.int 97)) (by decide +kernel)
      · exact hg (.eq (.elem (.field (Term.string RX4 31) "java/lang/String" "value" "[B") (.int 2)) (.int 103)) (by decide +kernel)
      · exact hg (.eq (.elem (.field (Term.string RX4 31) "java/lang/String" "value" "[B") (.int 3)) (.int 101)) (by decide +kernel)
    · have hj : j < 5 := hj
      rcases (show j = 0 ∨ j = 1 ∨ j = 2 ∨ j = 3 ∨ j = 4 by omega) with rfl | rfl | rfl | rfl | rfl
      · exact hg (.eq (.elem (.field (Term.string RX4 41) "java/lang/String" "value" "[B") (.int 0)) (.int 112)) (by decide +kernel)
      · exact hg (.eq (.elem (.field (Term.string RX4 41) "java/lang/String" "value" "[B") (.int 1)) (.int 105)) (by decide +kernel)
      · exact hg (.eq (.elem (.field (Term.string RX4 41) "java/lang/String" "value" "[B") (.int 2)) (.int 101)) (by decide +kernel)
      · exact hg (.eq (.elem (.field (Term.string RX4 41) "java/lang/String" "value" "[B") (.int 3)) (.int 99)) (by decide +kernel)
      · exact hg (.eq (.elem (.field (Term.string RX4 41) "java/lang/String" "value" "[B") (.int 4)) (.int 101)) (by decide +kernel)
    · have hj : j < 5 := hj
      rcases (show j = 0 ∨ j = 1 ∨ j = 2 ∨ j = 3 ∨ j = 4 by omega) with rfl | rfl | rfl | rfl | rfl
      · exact hg (.eq (.elem (.field (Term.string RX4 79) "java/lang/String" "value" "[B") (.int 0)) (.int 102)) (by decide +kernel)
      · exact hg (.eq (.elem (.field (Term.string RX4 79) "java/lang/String" "value" "[B") (.int 1)) (.int 114)) (by decide +kernel)
      · exact hg (.eq (.elem (.field (Term.string RX4 79) "java/lang/String" "value" "[B") (.int 2)) (.int 97)) (by decide +kernel)
      · exact hg (.eq (.elem (.field (Term.string RX4 79) "java/lang/String" "value" "[B") (.int 3)) (.int 109)) (by decide +kernel)
      · exact hg (.eq (.elem (.field (Term.string RX4 79) "java/lang/String" "value" "[B") (.int 4)) (.int 101)) (by decide +kernel)
  have hne : ∀ i j : Nat, i < 3 → j < 3 → i ≠ j → (Cond.not (Cond.eq (Term.string RX4 ([31, 41, 79].getD i 0)) (Term.string RX4 ([31, 41, 79].getD j 0)))).before #[Value.ref b] s = true ∨ (Cond.not (Cond.eq (Term.string RX4 ([31, 41, 79].getD j 0)) (Term.string RX4 ([31, 41, 79].getD i 0)))).before #[Value.ref b] s = true := by
    intro i j hi hj hij
    rcases (show i = 0 ∨ i = 1 ∨ i = 2 by omega) with rfl | rfl | rfl <;> rcases (show j = 0 ∨ j = 1 ∨ j = 2 by omega) with rfl | rfl | rfl
    · exact absurd rfl hij
    · exact Or.inl (hg (.not (.eq (Term.string RX4 31) (Term.string RX4 41))) (by decide +kernel))
    · exact Or.inl (hg (.not (.eq (Term.string RX4 31) (Term.string RX4 79))) (by decide +kernel))
    · exact Or.inr (hg (.not (.eq (Term.string RX4 31) (Term.string RX4 41))) (by decide +kernel))
    · exact absurd rfl hij
    · exact Or.inl (hg (.not (.eq (Term.string RX4 41) (Term.string RX4 79))) (by decide +kernel))
    · exact Or.inr (hg (.not (.eq (Term.string RX4 31) (Term.string RX4 79))) (by decide +kernel))
    · exact Or.inr (hg (.not (.eq (Term.string RX4 41) (Term.string RX4 79))) (by decide +kernel))
    · exact absurd rfl hij
  obtain ⟨adK, adV, hVS, hEv⟩ := vk_Sof (s := s) (args := #[Value.ref b]) (N := 3) (tm := fun i => Term.string RX4 ([31, 41, 79].getD i 0)) (len := xStrL) (byt := xStrB) (A := fun z : Nat => s.heap.size ≤ z) (fun i hi => by rcases (show i = 0 ∨ i = 1 ∨ i = 2 by omega) with rfl | rfl | rfl <;> decide) hex hco har hle hel hne hA
  refine ⟨D, aI, aZ, aL, (tL, tH, adK, adV), hK, ⟨?_, ?_, zL, TL, zH, TH, hVS, ?_, ?_, ?_⟩, hAO⟩
  · intro k q hq
    match k, hq with
    | 0, hq => cases hq; exact va_Nw.of rfl (hts _ lw_nm0)
    | 1, hq => cases hq; exact va_Nw.of rfl (hts _ lw_nm1)
    | 2, hq => cases hq; exact va_Nw.of rfl (hts _ lw_nm2)
    | 3, hq => cases hq; exact va_Nw.of rfl (hts _ lw_nm3)
    | 4, hq => cases hq; exact va_Nw.of rfl (hts _ lw_nm4)
    | 5, hq => cases hq; exact va_Nw.of rfl (hts _ lw_nm5)
    | 6, hq => cases hq; exact va_Nw.of rfl (hts _ lw_nm6)
    | 7, hq => cases hq; exact va_Nw.of rfl (hts _ lw_nm7)
    | 8, hq => cases hq; exact va_Nw.of rfl (hts _ lw_nm8)
    | 9, hq => cases hq; exact va_Nw.of rfl (hts _ lw_nm9)
    | k + 10, hq => simp [xNestM] at hq
  · intro k q hq
    match k, hq with
    | 0, hq => cases hq; exact va_Nw.of rfl (hts _ lw_nf0)
    | 1, hq => cases hq; exact va_Nw.of rfl (hts _ lw_nf1)
    | k + 2, hq => simp [xNestF] at hq
  · intro k q hq
    match k, hq with
    | 0, hq => cases hq; exact vk_R.of (hts _ lw_str0) (hEv 0 (by decide))
    | 1, hq => cases hq; exact vk_R.of (hts _ lw_str1) (hEv 1 (by decide))
    | 2, hq => cases hq; exact vk_R.of (hts _ lw_str2) (hEv 2 (by decide))
    | k + 3, hq => simp [xStrN] at hq
  · exact va_Zof (hts _ lw_sC) (hts _ lw_iS) (va_eqi (hg (.eq (.static "java/lang/String" "COMPACT_STRINGS" "Z") (.int 1)) (by decide +kernel))) hA
  · exact va_Zqof (hts _ lw_sQ) (hts _ lw_iQ) (hg (.isRef (.static "jdk/internal/util/Preconditions" "SIOOBE_FORMATTER" "Ljava/util/function/BiFunction;")) (by decide +kernel)) hA
