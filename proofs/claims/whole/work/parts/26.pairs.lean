/-! piece, count, edge on both sides -/
section QB
variable {s : LyS} {m : Nat → Int32}
theorem q_edge (h : LM s m) (p0 p1 : Int32) (ss : SiS) (sh so : Nat → Int32) : ∃ v ss' sh' so', f_X7_edge s ss p0 p1 = some (v, ss') ∧ f_X8_edge m sh so p0 p1 = some (v, sh', so') := by
  obtain ⟨a, ha, hl, hm, -⟩ := h
  have hb := ha.b
  obtain ⟨x, hx1, hx2, rfl⟩ := iI_of p0
  obtain ⟨y, hy1, hy2, rfl⟩ := iI_of p1
  have known : (if iI y = (-1 : Int32) then some (1 : Int32) else if iI y = (-2 : Int32) then some (1 : Int32) else (f_X1_has s (iI y)).bind fun r2 => if r2 = 0 then some (0 : Int32) else some (1 : Int32)) = some (bI (-2 ≤ y ∧ y < aN a)) := by
    rw [L_has hl (by omega) ⟨hy1, hy2⟩, ob_some, if_b, show (-1 : Int32) = iI (-1) from rfl, show (-2 : Int32) = iI (-2) from rfl]
    simp (disch := omega) only [iI_eq]
    by_cases c : -2 ≤ y ∧ y < aN a
    · rw [bI_t c]
      repeat' split
      all_goals first | rfl | (exfalso; omega)
    · rw [bI_f c]
      repeat' split
      all_goals first | rfl | (exfalso; omega)
  unfold f_X7_edge f_X8_edge
  rw [known, ob_some, L_has hl (by omega) ⟨hx1, hx2⟩, ob_some, M_isPiece hm (by omega) ⟨hx1, hx2⟩, ob_some, if_b, if_b, if_b]
  by_cases hx : 0 ≤ x ∧ x < aN a
  · rw [if_pos hx, if_pos hx]
    have hld : x_ld 88 m (2 : Int32) = some (iI (aN a : Int)) := M_ld2 hm
    have hin : f_X8_in (iI y) (-2 : Int32) (iI (aN a : Int) - 1) = some (bI (-2 ≤ y ∧ y ≤ (aN a : Int) - 1)) := by
      rw [show iI (aN a : Int) - 1 = iI ((aN a : Int) - 1) from iI_sub _ 1, show (-2 : Int32) = iI (-2) from rfl]
      exact M_in ⟨hy1, hy2⟩ (by omega) (by omega)
    rw [hld, ob_some, hin, ob_some, if_b]
    by_cases hy : -2 ≤ y ∧ y < aN a
    · rw [if_pos hy, if_pos (show -2 ≤ y ∧ y ≤ (aN a : Int) - 1 by omega)]
      by_cases c : iI x = iI y
      · rw [if_pos c, if_pos c]
        exact ⟨_, _, _, _, rfl, rfl⟩
      · obtain ⟨x', rfl⟩ : ∃ x' : Nat, (x' : Int) = x := ⟨x.toNat, by omega⟩
        obtain ⟨sh', so', e, h1, h2⟩ := M_paint hm ha sh so
        obtain ⟨ss', e2, h3⟩ := L_look hl ha ss
        rw [if_neg c, if_neg c, e2, ob_some, e, ob_some]
        dsimp only
        by_cases d : y = -2
        · subst d
          obtain ⟨z, e3⟩ := M_edgeB hm ha h1 (p := x') (by omega)
          rw [show x_loop (b_X8_edge_42 m (iI (x' : Int)) (iI (-2)) sh') x_fuel ((0 : Int32), (0 : Int32)) = _ from e3, ob_some, if_pos (show iI (-2) = (-2 : Int32) from rfl), S_border hl ha h3 (by omega), ob_some]
          exact ⟨_, _, _, _, rfl, rfl⟩
        · obtain ⟨z, e3⟩ := M_edge hm ha h1 (p := x') (q := y) (by omega) (by omega)
          have d' : ¬ iI y = (-2 : Int32) := fun q => d ((iI_eq (by omega) (by omega) (by omega) (by omega)).mp (show iI y = iI (-2) from q))
          rw [show x_loop (b_X8_edge_42 m (iI (x' : Int)) (iI y) sh') x_fuel ((0 : Int32), (0 : Int32)) = _ from e3, ob_some, if_neg d', S_edge hl ha h3 (by omega) (show y = -1 ∨ ∃ p : Nat, y = p ∧ p < aN a by
            by_cases q : y = -1
            · exact Or.inl q
            · exact Or.inr ⟨y.toNat, by omega, by omega⟩), ob_some]
          exact ⟨_, _, _, _, rfl, rfl⟩
    · rw [if_neg hy, if_neg (show ¬ (-2 ≤ y ∧ y ≤ (aN a : Int) - 1) by omega)]
      by_cases c : iI x = iI y
      · rw [if_pos c]
        exact ⟨_, _, _, _, rfl, rfl⟩
      · rw [if_neg c]
        exact ⟨_, _, _, _, rfl, rfl⟩
  · rw [if_neg hx, if_neg hx]
    exact ⟨_, _, _, _, rfl, rfl⟩
theorem q_count (h : LM s m) {t : HT} {st : Nat → Int32} {cnt : Int32} (hH : HR t st cnt) (tx : TxS) (tl : Int32) (hT : Tx_len tx = tl) (w : Int32) (ss : SiS) (sh so : Nat → Int32) : ∃ v ss' sh' so', f_X7_count s ss t.1 tx w = some (v, ss') ∧ f_X8_count m cnt tl sh so w = some (v, sh', so') := by
  obtain ⟨a, ha, hl, hm, hc⟩ := h
  obtain ⟨f, k, -, -, -, hk, hk2, -⟩ := hH
  have hb := ha.b
  obtain ⟨sh', so', e, h1, h2⟩ := M_paint hm ha sh so
  obtain ⟨ss', e2, h3⟩ := L_look hl ha ss
  unfold f_X7_count f_X8_count f_X1_pieces f_X1_columns f_X1_rows f_X1_cost f_X0_size f_X6_length
  rw [e2, e, ob_some ss', ob_some (sh', so')]
  dsimp only
  by_cases c : w = (0 : Int32)
  · rw [if_pos c, if_pos c, hl.n, iL_2, M_ld2 hm]
    exact ⟨_, _, _, _, rfl, rfl⟩
  rw [if_neg c, if_neg c]
  by_cases c : w = (1 : Int32)
  · rw [if_pos c, if_pos c, hl.c, show x_ld 88 m (0 : Int32) = _ from M_ld0 hm]
    exact ⟨_, _, _, _, rfl, rfl⟩
  rw [if_neg c, if_neg c]
  by_cases c : w = (2 : Int32)
  · rw [if_pos c, if_pos c, hl.r, show x_ld 88 m (1 : Int32) = _ from M_ld1 hm]
    exact ⟨_, _, _, _, rfl, rfl⟩
  rw [if_neg c, if_neg c]
  by_cases c : w = (3 : Int32)
  · rw [if_pos c, if_pos c, S_contentPieces hl ha h3, show f_X8_contents m so' (-109 : Int32) = _ from M_contents' hm ha h2]
    exact ⟨_, _, _, _, rfl, rfl⟩
  rw [if_neg c, if_neg c]
  by_cases c : w = (4 : Int32)
  · rw [if_pos c, if_pos c, S_unseen hl ha h3, M_unseen hm ha h2]
    exact ⟨_, _, _, _, rfl, rfl⟩
  rw [if_neg c, if_neg c]
  by_cases c : w = (5 : Int32)
  · rw [if_pos c, if_pos c, S_whole hl ha h3, M_whole hm ha h1]
    exact ⟨_, _, _, _, rfl, rfl⟩
  rw [if_neg c, if_neg c]
  by_cases c : w = (6 : Int32)
  · rw [if_pos c, if_pos c, S_pageCells hl ha h3, M_pageSeen hm ha h2]
    exact ⟨_, _, _, _, rfl, rfl⟩
  rw [if_neg c, if_neg c]
  by_cases c : w = (7 : Int32)
  · have e7 : x_ld 88 m (3 : Int32) = some (m 3) := x_ldI (k := 3) (j := 3) rfl (by omega) (by omega)
    rw [if_pos c, if_pos c, e7, hc]
    exact ⟨_, _, _, _, rfl, rfl⟩
  rw [if_neg c, if_neg c]
  by_cases c : w = (8 : Int32)
  · rw [if_pos c, if_pos c, hk, hk2]
    exact ⟨_, _, _, _, rfl, rfl⟩
  rw [if_neg c, if_neg c]
  by_cases c : w = (9 : Int32)
  · rw [if_pos c, if_pos c, hT]
    exact ⟨_, _, _, _, rfl, rfl⟩
  rw [if_neg c, if_neg c]
  exact ⟨_, _, _, _, rfl, rfl⟩
theorem q_piece (h : LM s m) (p0 w : Int32) (ss : SiS) (pa : PaS) (sh so g oo : Nat → Int32) (n0 : Int32) : ∃ v ss' pa' sh' so' g' oo' n', f_X7_piece s ss pa p0 w = some (v, ss', pa') ∧ f_X8_piece m sh so g oo n0 p0 w = some (v, sh', so', g', oo', n') := by
  obtain ⟨a, ha, hl, hm, hc⟩ := h
  have hb := ha.b
  obtain ⟨x, hx1, hx2, rfl⟩ := iI_of p0
  unfold f_X7_piece f_X8_piece
  rw [L_has hl (by omega) ⟨hx1, hx2⟩, ob_some, M_isPiece hm (by omega) ⟨hx1, hx2⟩, ob_some, if_b, if_b]
  by_cases hx : 0 ≤ x ∧ x < aN a
  · rw [if_pos hx, if_pos hx]
    obtain ⟨x', rfl⟩ : ∃ x' : Nat, (x' : Int) = x := ⟨x.toNat, by omega⟩
    have hp : x' < aN a := by omega
    obtain ⟨y, hy1, hy2, rfl⟩ := iI_of w
    have ei : f_X7_isWithin (iI y) (0 : Int32) (5 : Int32) = some (bI (0 ≤ y ∧ y ≤ 5)) := F_isWithin (x := y) (lo := 0) (hi := 5) ⟨hy1, hy2⟩ (by omega) (by omega)
    have ej : f_X8_in (iI y) (0 : Int32) (12 : Int32) = some (bI (0 ≤ y ∧ y ≤ 12)) := M_in (x := y) (lo := 0) (hi := 12) ⟨hy1, hy2⟩ (by omega) (by omega)
    obtain ⟨sh', so', e, h1, h2⟩ := M_paint hm ha sh so
    obtain ⟨ss', e2, h3⟩ := L_look hl ha ss
    obtain ⟨pa', e3, h4⟩ := P_split hl ha h3 hp pa
    have ne : ∀ k : Int, -2147483648 ≤ k → k < 2147483648 → y ≠ k → ¬ iI y = iI k := fun k q1 q2 q q3 => q ((iI_eq hy1 hy2 q1 q2).mp q3)
    rw [ei, ob_some, ej, ob_some, if_b, if_b, e2, e, ob_some ss', ob_some (sh', so')]
    dsimp only
    by_cases c5 : 0 ≤ y ∧ y ≤ 5
    · obtain ⟨y', rfl⟩ : ∃ y' : Nat, (y' : Int) = y := ⟨y.toNat, by omega⟩
      rw [if_pos c5, if_pos (by omega), L_get hl (by omega) hp (w := y') (by omega) rfl, ob_some, iL_6, iL_7, iL_8, iL_9, iL_10, iL_11, iL_12, if_neg (ne 6 (by omega) (by omega) (by omega)), if_neg (ne 7 (by omega) (by omega) (by omega)), if_neg (ne 8 (by omega) (by omega) (by omega)), if_neg (ne 9 (by omega) (by omega) (by omega)), if_neg (ne 10 (by omega) (by omega) (by omega)), if_neg (ne 11 (by omega) (by omega) (by omega)), if_neg (ne 12 (by omega) (by omega) (by omega)), M_of hm (by omega) hp (w := y') (by omega) rfl, ob_some]
      exact ⟨_, _, _, _, _, _, _, _, rfl, rfl⟩
    · rw [if_neg c5]
      by_cases c12 : 0 ≤ y ∧ y ≤ 12
      · rw [if_pos c12]
        by_cases c : iI y = (6 : Int32)
        · rw [if_pos c, if_pos c, L_layerOf' hl ha hp, M_layerOf' hm ha hp]
          exact ⟨_, _, _, _, _, _, _, _, rfl, rfl⟩
        rw [if_neg c, if_neg c]
        by_cases c7 : iI y = (7 : Int32)
        · unfold f_X5_cells
          rw [if_pos c7, if_pos c7, S_cells' h3 (by omega) hp, x_ldI rfl (by omega) (by omega), h2 x' (by omega)]
          exact ⟨_, _, _, _, _, _, _, _, rfl, rfl⟩
        rw [if_neg c7, if_neg c7]
        by_cases c8 : iI y = (8 : Int32)
        · rw [if_pos c8, if_pos c8, S_isContent hl ha h3 hp, M_isContent' hm ha h2 hp, ob_some, ob_some, if_b, if_b]
          by_cases d : con a x' = true
          · rw [if_pos d, if_pos d]
            exact ⟨_, _, _, _, _, _, _, _, rfl, rfl⟩
          · rw [if_neg d, if_neg d]
            exact ⟨_, _, _, _, _, _, _, _, rfl, rfl⟩
        rw [if_neg c8, if_neg c8]
        by_cases c9 : iI y = (9 : Int32)
        · have d10 : ¬ iI y = (10 : Int32) := by rw [c9]; decide
          obtain ⟨g', oo', n', e4⟩ := M_parts hm ha h1 hp g oo n0 0
          unfold f_X2_number
          rw [if_pos c9, if_pos c9, e3, ob_some, ob_some, h4.2.1, if_neg d10, ob_some, e4, ob_some]
          exact ⟨_, _, _, _, _, _, _, _, rfl, rfl⟩
        rw [if_neg c9, if_neg c9]
        by_cases c10 : iI y = (10 : Int32)
        · obtain ⟨g', oo', n', e4⟩ := M_parts hm ha h1 hp g oo n0 1
          unfold f_X2_largest
          rw [if_pos c10, if_pos c10, if_pos c10, e3, ob_some, ob_some, h4.2.2.1, ob_some, e4, ob_some]
          exact ⟨_, _, _, _, _, _, _, _, rfl, rfl⟩
        rw [if_neg c10, if_neg c10]
        by_cases c11 : iI y = (11 : Int32)
        · rw [if_pos c11, if_pos c11, S_cuts hl ha h3 hp, M_cuts hm ha h1 hp]
          exact ⟨_, _, _, _, _, _, _, _, rfl, rfl⟩
        rw [if_neg c11, if_neg c11]
        have ey : iI y = (12 : Int32) := by
          have n6 : y ≠ 6 := fun q => c (by rw [q]; rfl)
          have n7 : y ≠ 7 := fun q => c7 (by rw [q]; rfl)
          have n8 : y ≠ 8 := fun q => c8 (by rw [q]; rfl)
          have n9 : y ≠ 9 := fun q => c9 (by rw [q]; rfl)
          have n10 : y ≠ 10 := fun q => c10 (by rw [q]; rfl)
          have n11 : y ≠ 11 := fun q => c11 (by rw [q]; rfl)
          rw [show y = 12 by omega]
          rfl
        rw [if_pos ey, if_pos ey, L_outside hl ha hp, M_outside hm ha hp]
        exact ⟨_, _, _, _, _, _, _, _, rfl, rfl⟩
      · rw [if_neg c12, iL_6, iL_7, iL_8, iL_9, iL_10, iL_11, iL_12, if_neg (ne 6 (by omega) (by omega) (by omega)), if_neg (ne 7 (by omega) (by omega) (by omega)), if_neg (ne 8 (by omega) (by omega) (by omega)), if_neg (ne 9 (by omega) (by omega) (by omega)), if_neg (ne 10 (by omega) (by omega) (by omega)), if_neg (ne 11 (by omega) (by omega) (by omega)), if_neg (ne 12 (by omega) (by omega) (by omega))]
        exact ⟨_, _, _, _, _, _, _, _, rfl, rfl⟩
  · rw [if_neg hx, if_neg hx]
    exact ⟨_, _, _, _, _, _, _, _, rfl, rfl⟩
end QB
