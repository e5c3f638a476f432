/-! the cheapest shift of all on both sides -/
theorem sX_true {R : Int → Int → Bool} {c : Int} {k : Nat} {x y : Int} (h : sX R c k = some (x, y)) : R x y = true := by
  induction k with
  | zero => cases h
  | succ k ih =>
    rw [sX] at h
    cases e : sX R c k with
    | some r =>
      rw [e] at h
      dsimp only at h
      rw [h] at e
      exact ih e
    | none =>
      rw [e] at h
      dsimp only at h
      unfold sF at h
      split at h
      · rename_i q
        simp only [Option.some.injEq, Prod.mk.injEq] at h
        rw [← h.1, ← h.2]
        exact q
      · split at h
        · rename_i q
          simp only [Option.some.injEq, Prod.mk.injEq] at h
          rw [← h.1, ← h.2]
          exact q
        · cases h
theorem sC_true {R : Int → Int → Bool} {N : Nat} {x y : Int} (h : sC R N = some (x, y)) : R x y = true := by
  induction N with
  | zero => cases h
  | succ N ih =>
    rw [sC] at h
    cases e : sC R N with
    | some r =>
      rw [e] at h
      dsimp only at h
      rw [h] at e
      exact ih e
    | none =>
      rw [e] at h
      dsimp only at h
      exact sX_true h
theorem bst_inv {a : AL} : ∀ i, (bst a i).2.1 ≤ 9 ∧ ((bst a i = (-109, 9, 0, 0)) ∨ ∃ j x y, j < i ∧ bst a i = ((j : Int), (ab x + ab y).toNat, x, y) ∧ ab x + ab y ≤ 8 ∧ rchN a j (cons a) x y = true) := by
  intro i
  induction i with
  | zero => exact ⟨Nat.le_refl _, Or.inl rfl⟩
  | succ i ih =>
    rw [bst]
    by_cases c : con a i = true
    · rw [if_pos c]
      refine ⟨ih.1, ?_⟩
      rcases ih.2 with q | ⟨j, x, y, h1, h2⟩
      · exact Or.inl q
      · exact Or.inr ⟨j, x, y, by omega, h2⟩
    · rw [if_neg c]
      cases e : sC (rchN a i (cons a)) (bst a i).2.1 with
      | none =>
        dsimp only
        refine ⟨ih.1, ?_⟩
        rcases ih.2 with q | ⟨j, x, y, h1, h2⟩
        · exact Or.inl q
        · exact Or.inr ⟨j, x, y, by omega, h2⟩
      | some r =>
        obtain ⟨x, y⟩ := r
        dsimp only
        obtain ⟨k, g1, -, -, g4⟩ := sC_at e
        have := ih.1
        exact ⟨by omega, Or.inr ⟨i, x, y, by omega, rfl, by omega, sC_true e⟩⟩
theorem need1 (a : AL) : need a 1 = cons a := rfl
theorem S_cheap {s : LyS} {a : AL} (hl : LOK s a) (ha : AOK a) {ss : SiS} (hs : SOK ss a) (pl : PlS) (tr : LyS) (ps : SiS) : ∃ z1 z2 pl' tr' ps', x_loop (b_X7_makeCheapestShift_21 s ss) x_fuel ((-109 : Int32), (0 : Int32), (0 : Int32), (8 : Int32), (0 : Int32), pl, tr, ps) = some (iI (bst a (aN a)).1, iI (bst a (aN a)).2.2.1, iI (bst a (aN a)).2.2.2, z1, z2, pl', tr', ps') := by
  have hb := ha.b
  have key := x_for (B := b_X7_makeCheapestShift_21 s ss) (fun i (u : PlS × LyS × SiS) => (iI (bst a i).1, iI (bst a i).2.2.1, iI (bst a i).2.2.2, iI ((bst a i).2.1 - 1 : Int), iI (i : Int), u.1, u.2.1, u.2.2)) (fun _ _ => True) (aN a) (fun r => ∃ z1 z2 pl' tr' ps', r = (iI (bst a (aN a)).1, iI (bst a (aN a)).2.2.1, iI (bst a (aN a)).2.2.2, z1, z2, pl', tr', ps'))
    (by
      rintro i ⟨pl, tr, ps⟩ hi -
      left
      have hv := bst_inv (a := a) i
      obtain ⟨v, pl', tr', ps', e1, c1⟩ := S_findShift hl ha hi pl tr ps (aim := 1) (by omega) (d := ((bst a i).2.1 : Int) - 1) (D := (bst a i).2.1) (by omega) hv.1
      rw [need1] at c1
      rw [b_X7_makeCheapestShift_21]
      unfold f_X1_pieces
      rw [ob_some, hl.n, S_isContent hl ha hs hi, ob_some, if_b]
      simp (disch := omega) only [iI_le]
      rw [if_neg (by omega)]
      by_cases c : con a i = true
      · have e : bst a (i + 1) = bst a i := by rw [bst, if_pos c]
        rw [if_pos c, iI_suc]
        exact ⟨(pl, tr, ps), by rw [e], trivial⟩
      · rw [if_neg c, show f_X3_findShift pl s tr ps (iI (i : Int)) (1 : Int32) (iI (((bst a i).2.1 : Int) - 1)) = _ from e1, ob_some]
        dsimp only
        rcases c1 with ⟨rfl, q1⟩ | ⟨x, y, rfl, q1, q2, q3⟩
        · have e : bst a (i + 1) = bst a i := by rw [bst, if_neg c, q1]
          rw [if_pos rfl, iI_suc]
          exact ⟨(pl', tr', ps'), by rw [e], trivial⟩
        · have e : bst a (i + 1) = ((i : Int), (ab x + ab y).toNat, x, y) := by rw [bst, if_neg c, q1]
          obtain ⟨k, g1, -, -, g4⟩ := sC_at q1
          have hX := ab_b x
          have hY := ab_b y
          unfold f_X3_dx f_X3_dy f_X3_cost
          rw [if_neg (show ¬ (1 : Int32) = 0 by decide), ob_some, ob_some, ob_some, x_nm_eq, q2, q3, F_abs (by omega), F_abs (by omega), iI_suc, iI_add, iL_1, iI_sub]
          refine ⟨(pl', tr', ps'), ?_, trivial⟩
          have ec : ab x + ab y - 1 = (((ab x + ab y).toNat : Nat) : Int) - 1 := by omega
          rw [e, ec])
    (by
      rintro ⟨pl, tr, ps⟩ -
      rw [b_X7_makeCheapestShift_21]
      unfold f_X1_pieces
      rw [ob_some, hl.n]
      simp (disch := omega) only [iI_le]
      rw [if_pos (by omega)]
      exact ⟨_, rfl, _, _, _, _, _, rfl⟩) (pl, tr, ps) trivial (by omega)
  obtain ⟨r, e1, z1, z2, pl', tr', ps', rfl⟩ := key
  exact ⟨z1, z2, pl', tr', ps', e1⟩
