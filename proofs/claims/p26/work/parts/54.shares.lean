/-! p26: shares -/
section ZV
variable {s : LyS} {a : AL} {G : SiS → SiS}
theorem sh_loop (hl : LOK s a) (ha : AOK a) (hG : LK s a G) {v : Nat → Nat} (hv : ∀ i, i < aN a → v i < aN a ∧ rnk a (v i) = i) (ss : SiS) (pa : PaS) : ∃ z1 z2 z3 ss', x_loop (b_L_shares_13 s (iI (aN a : Int))) x_fuel ((0 : Int32), (-1 : Int32), (0 : Int32), ss, pa) = some (.inr (z1, z2, z3, ss', pa)) := by
  have hb := ha.b
  obtain ⟨bef, hbef⟩ : ∃ bef : Nat → Int, bef = fun i => if i = 0 then -1 else shr a (v (i - 1)) := ⟨_, rfl⟩
  have key := x_for (B := b_L_shares_13 s (iI (aN a : Int))) (fun i (u : SiS) => (msk (bsF v i), iI (bef i), iI (i : Int), u, pa)) (fun _ _ => True) (aN a) (fun b => ∃ z1 z2 z3 ss', b = Sum.inr (z1, z2, z3, ss', pa))
    (by
      intro i u hi _
      left
      obtain ⟨h1, h2⟩ := hv i hi
      have hV := ha.p h1
      have hpr := prodP ha h1
      have hcl := cnt_le ha (v i : Int)
      have hsb := shr_b ha h1
      have e1 := fun ss => z_byShare hl ha hG hv hi ss
      have p7 := fun ss pa => z_piece7 hl ha hG h1 ss pa
      have p2 := fun ss pa => z_piece2 hl ha h1 ss pa
      have p3 := fun ss pa => z_piece3 hl ha h1 ss pa
      have p6 := fun ss pa => z_piece6 hl ha hG h1 ss pa
      have hd : x_div ((100 : Int32) * iI (cnt a (v i : Int) : Int)) (iI (aP a (v i) 2) * iI (aP a (v i) 3)) = some (iI (shr a (v i))) := by
        rw [iL_100, iI_mul, iI_mul, x_divI (by omega) (by omega) (by omega) (by omega)]
        unfold shr
        rw [Int.mul_comm]
      have f1 : (iI (v i : Int) < (0 : Int32)) = False := eq_false (fun z => by
        have := (iI_lt (by omega) (by omega) (by omega) (by omega)).mp (show iI (v i : Int) < iI 0 from z)
        omega)
      have f2 : (iI (aN a : Int) ≤ iI (v i : Int)) = False := eq_false (fun z => by
        have := (iI_le (by omega) (by omega) (by omega) (by omega)).mp z
        omega)
      have f3 : (((msk (bsF v i) >>> (iI (v i : Int) &&& 31)) &&& (1 : Int32)) = (1 : Int32)) = False := eq_false (bs_test (by omega) (fun j hj z => by
        have := (hv j (by omega)).2
        rw [z] at this
        omega))
      have f4 : msk (bsF v i) ||| ((1 : Int32) <<< (iI (v i : Int) &&& 31)) = msk (bsF v (i + 1)) := bs_set (by omega)
      have hbn : bef (i + 1) = shr a (v i) := by
        rw [hbef]
        show (if i + 1 = 0 then -1 else shr a (v (i + 1 - 1))) = _
        rw [if_neg (by omega), Nat.add_sub_cancel]
      rw [b_L_shares_13]
      simp (disch := omega) only [iI_le]
      rw [if_neg (by omega)]
      by_cases c : i = 0
      · have b0 : bef i = -1 := by rw [hbef, c]; rfl
        have f5 : (iI (i : Int) = 0) = True := eq_true (by rw [c]; rfl)
        have f6 : (iI (i : Int) ≤ 0) = True := eq_true (by rw [c]; decide)
        have f7 : (iI (shr a (v i)) < iI (bef i)) = False := eq_false (fun z => by
          rw [b0] at z
          have := (iI_lt (by omega) (by omega) (by omega) (by omega)).mp z
          omega)
        simp only [g_L_shares_97, g_L_shares_137, e1, p7, p2, p3, p6, hd, f1, f2, f3, f4, f5, f6, f7, ↓reduceIte, ob_some, x_nm_eq, Sum.elim_inr, iI_suc]
        exact ⟨G (G u), by rw [hbn], trivial⟩
      · obtain ⟨g1, g2⟩ := hv (i - 1) (by omega)
        have hsb2 := shr_b ha g1
        have b1 : bef i = shr a (v (i - 1)) := by
          rw [hbef]
          show (if i = 0 then -1 else shr a (v (i - 1))) = _
          rw [if_neg c]
        have e2 := fun ss => z_byShare hl ha hG hv (show i - 1 < aN a by omega) ss
        have p6' := fun ss pa => z_piece6 hl ha hG g1 ss pa
        have el : iI (i : Int) - (1 : Int32) = iI ((i - 1 : Nat) : Int) := by
          rw [iL_1, iI_sub]
          congr 1
          omega
        have hord : ¬ (shr a (v i) < shr a (v (i - 1)) ∨ (shr a (v i) = shr a (v (i - 1)) ∧ lyr a (v i) < lyr a (v (i - 1)))) := fun z => by
          have := rnk_mono h1 z
          omega
        have f5 : (iI (i : Int) = 0) = False := eq_false (fun z => by
          have := (iI_eq (by omega) (by omega) (by omega) (by omega)).mp (show iI (i : Int) = iI 0 from z)
          omega)
        have f6 : (iI (i : Int) ≤ 0) = False := eq_false (fun z => by
          have := (iI_le (by omega) (by omega) (by omega) (by omega)).mp (show iI (i : Int) ≤ iI 0 from z)
          omega)
        have f7 : (iI (shr a (v i)) < iI (shr a (v (i - 1)))) = False := eq_false (fun z => by
          have := (iI_lt (by omega) (by omega) (by omega) (by omega)).mp z
          omega)
        have l1 := lyr_lt ha h1
        have l2 := lyr_lt ha g1
        rw [b1]
        simp only [g_L_shares_97, g_L_shares_137, e1, e2, el, p7, p2, p3, p6, p6', hd, f1, f2, f3, f4, f5, f6, f7, ↓reduceIte, ob_some, x_nm_eq, Sum.elim_inr, iI_suc]
        by_cases d : shr a (v i) = shr a (v (i - 1))
        · have f8 : (iI (shr a (v i)) = iI (shr a (v (i - 1)))) = True := eq_true (by rw [d])
          have f9 : (iI (lyr a (v (i - 1)) : Int) ≤ iI (lyr a (v i) : Int)) = True := eq_true ((iI_le (by omega) (by omega) (by omega) (by omega)).mpr (by omega))
          simp only [f8, f9, ↓reduceIte, ob_some, Sum.elim_inr]
          exact ⟨G (G (G (G (G u)))), by rw [hbn], trivial⟩
        · have f8 : (iI (shr a (v i)) = iI (shr a (v (i - 1)))) = False := eq_false (fun z => by
            have := (iI_eq (by omega) (by omega) (by omega) (by omega)).mp z
            omega)
          simp only [f8, ↓reduceIte, ob_some, Sum.elim_inr]
          exact ⟨G (G (G u)), by rw [hbn], trivial⟩)
    (by
      intro u _
      rw [b_L_shares_13]
      simp (disch := omega) only [iI_le]
      rw [if_pos (by omega)]
      exact ⟨_, rfl, _, _, _, _, rfl⟩) ss trivial (by omega)
  obtain ⟨b, e, z1, z2, z3, ss', rfl⟩ := key
  refine ⟨z1, z2, z3, ss', ?_⟩
  rw [← e]
  rw [← bs_0 v, show bef 0 = -1 by rw [hbef]; rfl]
  rfl
theorem z_shares (hl : LOK s a) (ha : AOK a) (hi : HiS) (tx : TxS) (ss : SiS) (pa : PaS) : ∃ ss', f_L_shares s ss pa hi tx = some ((1 : Int32), ss', pa) := by
  obtain ⟨G, hG⟩ := LK_ex hl ha
  obtain ⟨v, hv⟩ := rnk_all ha
  obtain ⟨z1, z2, z3, ss1, e1⟩ := sh_loop hl ha hG hv (G ss) pa
  unfold f_L_shares
  simp only [z_count0 hl ha hG, ob_some, e1, Sum.elim_inr, z_byShare_no hl ha hG, z_byShare_neg, ↓reduceIte]
  exact ⟨_, rfl⟩
end ZV
