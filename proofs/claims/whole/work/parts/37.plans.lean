/-! the cheapest shift in the reference -/
theorem M_cheap {m : Nat → Int32} {a : AL} (hm : MOK m a) (ha : AOK a) (sh so : Nat → Int32) (lx ly : Int32) : ∃ z sh' so' lx' ly', x_loop b_X8_arranges_14 x_fuel ((-109 : Int32), (9 : Int32), (0 : Int32), (0 : Int32), (0 : Int32), m, sh, so, lx, ly) = some (iI (bst a (aN a)).1, iI ((bst a (aN a)).2.1 : Int), iI (bst a (aN a)).2.2.1, iI (bst a (aN a)).2.2.2, z, m, sh', so', lx', ly') := by
  have hb := ha.b
  have key := x_for (B := b_X8_arranges_14) (fun i (u : (Nat → Int32) × (Nat → Int32) × Int32 × Int32) => (iI (bst a i).1, iI ((bst a i).2.1 : Int), iI (bst a i).2.2.1, iI (bst a i).2.2.2, iI (i : Int), m, u.1, u.2.1, u.2.2.1, u.2.2.2)) (fun _ _ => True) (aN a) (fun r => ∃ z sh' so' lx' ly', r = (iI (bst a (aN a)).1, iI ((bst a (aN a)).2.1 : Int), iI (bst a (aN a)).2.2.1, iI (bst a (aN a)).2.2.2, z, m, sh', so', lx', ly'))
    (by
      rintro i ⟨sh, so, lx, ly⟩ hi -
      left
      have hv := bst_inv (a := a) i
      obtain ⟨sh1, so1, f1, k1, k2⟩ := M_paint hm ha sh so
      obtain ⟨v, sh2, so2, lx2, ly2, f2, c2⟩ := M_findLeast hm ha hi (aim := 1) (by omega) sh1 so1 lx ly
      rw [need1] at c2
      rw [b_X8_arranges_14, show x_ld 88 m (2 : Int32) = _ from M_ld2 hm, ob_some, f1, ob_some]
      dsimp only
      rw [M_isContent' hm ha k2 hi, ob_some, if_b]
      simp (disch := omega) only [iI_le]
      rw [if_neg (by omega)]
      by_cases c : con a i = true
      · have e : bst a (i + 1) = bst a i := by rw [bst, if_pos c]
        rw [if_pos c, ob_some]
        dsimp only
        rw [if_pos rfl, iI_suc]
        exact ⟨(sh1, so1, lx, ly), by rw [e], trivial⟩
      · rw [if_neg c, show f_X8_findLeast m sh1 so1 lx ly (iI (i : Int)) (1 : Int32) = _ from f2, ob_some (v, m, sh2, so2, lx2, ly2)]
        dsimp only
        rw [ob_some (v, m, sh2, so2, lx2, ly2)]
        dsimp only
        rcases c2 with ⟨rfl, q1⟩ | ⟨x, y, rfl, q1, q2, q3, q4⟩
        · have e : bst a (i + 1) = bst a i := by rw [bst, if_neg c, sC_none hv.1 q1]
          rw [if_pos (show iI (-109) = (-109 : Int32) from rfl), iI_suc]
          exact ⟨(sh2, so2, lx2, ly2), by rw [e], trivial⟩
        · have hX := ab_b x
          have hY := ab_b y
          have n0 : ¬ iI (ab x + ab y) = (-109 : Int32) := fun z => by
            have := (iI_eq (by omega) (by omega) (by omega) (by omega)).mp (show iI (ab x + ab y) = iI (-109) from z)
            omega
          have hcut := sC_cut hv.1 q3
          rw [if_neg n0]
          simp (disch := omega) only [iI_le]
          by_cases d : ab x + ab y < ((bst a i).2.1 : Int)
          · rw [if_pos d] at hcut
            have e : bst a (i + 1) = ((i : Int), (ab x + ab y).toNat, x, y) := by rw [bst, if_neg c, hcut]
            have ec : ab x + ab y = (((ab x + ab y).toNat : Nat) : Int) := by omega
            rw [if_neg (by omega), q1, q2, iI_suc]
            refine ⟨(sh2, so2, iI x, iI y), ?_, trivial⟩
            rw [e]
            dsimp only
            rw [← ec]
          · rw [if_neg d] at hcut
            have e : bst a (i + 1) = bst a i := by rw [bst, if_neg c, hcut]
            rw [if_pos (by omega), iI_suc]
            exact ⟨(sh2, so2, lx2, ly2), by rw [e], trivial⟩)
    (by
      rintro ⟨sh, so, lx, ly⟩ -
      rw [b_X8_arranges_14, show x_ld 88 m (2 : Int32) = _ from M_ld2 hm, ob_some]
      simp (disch := omega) only [iI_le]
      rw [if_pos (by omega)]
      exact ⟨_, rfl, _, _, _, _, _, rfl⟩) (sh, so, lx, ly) trivial (by omega)
  obtain ⟨r, e1, z, sh', so', lx', ly', rfl⟩ := key
  exact ⟨z, sh', so', lx', ly', e1⟩
