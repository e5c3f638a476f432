/-! p26: refuses -/
theorem z_refuses {s : LyS} {a : AL} {c : Int} {hi : HiS} {k : Nat} (hs : CS s a c) (hH : HK hi k) (ss : SiS) (pa : PaS) (pl : PlS) (tr : LyS) (ps : SiS) (h0 h1 h2 h3 h4 : LyS) (tx : TxS) : ∃ ss' pa' pl' tr' ps', f_L_refuses s ss pa pl tr ps hi h0 h1 h2 h3 h4 tx = some ((1 : Int32), s, ss', pa', pl', tr', ps', hi, h0, h1, h2, h3, h4, tx) := by
  obtain ⟨ha, hl, hc⟩ := hs
  have hb := ha.b
  obtain ⟨G, hG⟩ := LK_ex hl ha
  have r1 : ∀ ss, f_X7_setPage s ss hi h0 h1 h2 h3 h4 (25 : Int32) (4 : Int32) = some ((-101 : Int32), s, ss, hi, h0, h1, h2, h3, h4) := fun ss => z_setPage_no (x := 25) (y := 4) (by omega) (by omega) (by omega) ss
  have r2 : ∀ ss, f_X7_setPage s ss hi h0 h1 h2 h3 h4 (4 : Int32) (3 : Int32) = some ((-101 : Int32), s, ss, hi, h0, h1, h2, h3, h4) := fun ss => z_setPage_no (x := 4) (y := 3) (by omega) (by omega) (by omega) ss
  have r3 : f_X7_addPiece s hi h0 h1 h2 h3 h4 (-21 : Int32) (0 : Int32) (1 : Int32) (1 : Int32) (0 : Int32) = some ((-101 : Int32), s, hi, h0, h1, h2, h3, h4) := by
    rw [show (-21 : Int32) = iI (-21) from rfl]
    exact z_addPiece_no (x := -21) (y := 0) (w := 1) (u := 1) (q := 0) (by omega) (by omega) (by omega) (by omega) (by omega) (by omega)
  have r4 : f_X7_addPiece s hi h0 h1 h2 h3 h4 (0 : Int32) (41 : Int32) (1 : Int32) (1 : Int32) (0 : Int32) = some ((-101 : Int32), s, hi, h0, h1, h2, h3, h4) := z_addPiece_no (x := 0) (y := 41) (w := 1) (u := 1) (q := 0) (by omega) (by omega) (by omega) (by omega) (by omega) (by omega)
  have r5 : f_X7_addPiece s hi h0 h1 h2 h3 h4 (0 : Int32) (0 : Int32) (1 : Int32) (13 : Int32) (0 : Int32) = some ((-101 : Int32), s, hi, h0, h1, h2, h3, h4) := z_addPiece_no (x := 0) (y := 0) (w := 1) (u := 13) (q := 0) (by omega) (by omega) (by omega) (by omega) (by omega) (by omega)
  have r6 : f_X7_addPiece s hi h0 h1 h2 h3 h4 (0 : Int32) (0 : Int32) (1 : Int32) (1 : Int32) (-1 : Int32) = some ((-101 : Int32), s, hi, h0, h1, h2, h3, h4) := by
    rw [show (-1 : Int32) = iI (-1) from rfl]
    exact z_addPiece_no (x := 0) (y := 0) (w := 1) (u := 1) (q := -1) (by omega) (by omega) (by omega) (by omega) (by omega) (by omega)
  have r7 : f_X7_removePiece s hi h0 h1 h2 h3 h4 (iI (aN a : Int)) = some ((-101 : Int32), s, hi, h0, h1, h2, h3, h4) := z_removePiece_no hl ha (by omega) (by omega)
  have r8 : f_X7_setShare s hi h0 h1 h2 h3 h4 (iI (aN a : Int)) (0 : Int32) = some ((-101 : Int32), s, hi, h0, h1, h2, h3, h4) := z_setShare_no hl ha (by omega) (by omega) 0
  have r9 : f_X7_setFrame s hi h0 h1 h2 h3 h4 (-1 : Int32) (0 : Int32) = some ((-101 : Int32), s, hi, h0, h1, h2, h3, h4) := by
    rw [show (-1 : Int32) = iI (-1) from rfl]
    exact z_setFrame_no hl ha (x := -1) (by omega) (by omega) 0
  have r10 : f_X7_shift s hi h0 h1 h2 h3 h4 (iI (aN a : Int)) (0 : Int32) (0 : Int32) = some ((-101 : Int32), s, hi, h0, h1, h2, h3, h4) := z_shift_no1 hl ha (dx := 0) (by omega) (by omega) (by omega) 0
  have r11 : f_X7_shift s hi h0 h1 h2 h3 h4 (0 : Int32) (61 : Int32) (0 : Int32) = some ((-101 : Int32), s, hi, h0, h1, h2, h3, h4) := z_shift_no1 hl ha (x := 0) (dx := 61) (by omega) (by omega) (by omega) 0
  have r12 : f_X7_setLayer s hi h0 h1 h2 h3 h4 (0 : Int32) (iI (aN a : Int)) = some ((-101 : Int32), s, hi, h0, h1, h2, h3, h4) := z_setLayer_no hl ha (x := 0) (by omega) (by omega) (by omega)
  have r13 : f_X7_setLayer s hi h0 h1 h2 h3 h4 (iI (aN a : Int)) (0 : Int32) = some ((-101 : Int32), s, hi, h0, h1, h2, h3, h4) := z_setLayer_no hl ha (y := 0) (by omega) (by omega) (by omega)
  have q1 : ∀ ss pa, f_X7_piece s ss pa (iI (aN a : Int)) (0 : Int32) = some ((-101 : Int32), ss, pa) := fun ss pa => z_piece_no hl ha (by omega) (by omega) 0 ss pa
  obtain ⟨G13, q2⟩ : ∃ G13 : SiS → PaS → SiS, ∀ ss pa, f_X7_piece s ss pa (0 : Int32) (13 : Int32) = some ((-101 : Int32), G13 ss pa, pa) := ⟨fun ss pa => (z_piece_no13 hl ha hG ss pa).choose, fun ss pa => (z_piece_no13 hl ha hG ss pa).choose_spec⟩
  have q3 : ∀ ss, f_X7_edge s ss (iI (aN a : Int)) (-1 : Int32) = some ((-101 : Int32), ss) := by
    intro ss
    rw [show (-1 : Int32) = iI (-1) from rfl]
    exact z_edge_no hl ha (y := -1) (by omega) (by omega) (by omega) ss
  have q4 : ∀ ss, f_X7_edge s ss (0 : Int32) (0 : Int32) = some ((-101 : Int32), ss) := fun ss => z_edge_no hl ha (x := 0) (y := 0) (by omega) (by omega) (by omega) ss
  have q5 : ∀ ss, f_X7_edge s ss (0 : Int32) (iI (aN a : Int)) = some ((-101 : Int32), ss) := fun ss => z_edge_no hl ha (x := 0) (by omega) (by omega) (by omega) ss
  have q6 : ∀ ss, f_X7_hides s ss (0 : Int32) (0 : Int32) = some ((-101 : Int32), ss) := fun ss => z_hides_no hl ha (x := 0) (y := 0) (by omega) (by omega) (by omega) ss
  have q7 : ∀ ss, f_X7_hides s ss (iI (aN a : Int)) (0 : Int32) = some ((-101 : Int32), ss) := fun ss => z_hides_no hl ha (y := 0) (by omega) (by omega) (by omega) ss
  have q8 : ∀ pl tr ps, f_X7_leastShift s pl tr ps (0 : Int32) (-1 : Int32) (0 : Int32) = some ((-101 : Int32), pl, tr, ps) := by
    intro pl tr ps
    rw [show (-1 : Int32) = iI (-1) from rfl]
    exact z_least_no hl ha (x := 0) (aim := -1) (by omega) (by omega) (by omega) 0 pl tr ps
  have q9 : ∀ pl tr ps, f_X7_leastShift s pl tr ps (iI (aN a : Int)) (0 : Int32) (0 : Int32) = some ((-101 : Int32), pl, tr, ps) := fun pl tr ps => z_least_no hl ha (aim := 0) (by omega) (by omega) (by omega) 0 pl tr ps
  have q10 : ∀ tr ps, f_X7_layerFor s tr ps (iI (aN a : Int)) = some ((-101 : Int32), tr, ps) := fun tr ps => z_layerFor_no hl ha (by omega) (by omega) tr ps
  have n10 : ((1 : Int32) = 0) = False := eq_false (by decide)
  unfold f_L_refuses
  simp only [g_L_refuses_186, g_L_refuses_341, z_count0 hl ha hG, z_count8 hl ha hG, z_count7 hl ha hG, z_count_no1 hG, z_count_no2 hG, r1, r2, r3, r4, r5, r6, r7, r8, r9, r10, r11, r12, r13, q1, q2, q3, q4, q5, q6, q7, q8, q9, q10, z_append_no, n10, ob_some, ↓reduceIte]
  exact ⟨_, _, _, _, _, rfl⟩
