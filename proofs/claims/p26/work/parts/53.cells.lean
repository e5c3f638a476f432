/-! p26: cells -/
section ZU
variable {s : LyS} {a : AL} {G : SiS → SiS}
def pgC (a : AL) (x n : Nat) : Nat := sumN (fun y : Nat => if top a x y = -1 then 1 else 0) n
theorem ce_in (hl : LOK s a) (ha : AOK a) (hG : LK s a G) (hi : HiS) (tx : TxS) {x : Nat} (hx : x < aC a) (ss : SiS) (pa : PaS) (p0 : Nat) : ∃ ss', x_loop (b_L_cells_26 s hi tx (iI (aR a : Int)) (iI (x : Int))) x_fuel (iI (p0 : Int), (0 : Int32), ss, pa) = some (.inr (iI ((p0 + pgC a x (aR a) : Nat) : Int), iI (aR a : Int), ss', pa)) := by
  have hb := ha.b
  have f1 : (iI (-1) = (-1 : Int32)) = True := eq_true rfl
  have f2 : (iI (-109) = (-109 : Int32)) = True := eq_true rfl
  have f3 : (iI (-109) < (0 : Int32)) = True := eq_true (by decide)
  have key := x_for (B := b_L_cells_26 s hi tx (iI (aR a : Int)) (iI (x : Int))) (fun i (u : SiS) => (iI ((p0 + pgC a x i : Nat) : Int), iI (i : Int), u, pa)) (fun _ _ => True) (aR a) (fun b => ∃ ss', b = Sum.inr (iI ((p0 + pgC a x (aR a) : Nat) : Int), iI (aR a : Int), ss', pa))
    (by
      intro y u hy _
      left
      have ht := top_b ha x y
      have hp : pgC a x (y + 1) = pgC a x y + (if top a x y = -1 then 1 else 0) := rfl
      have e1 := z_seen hl ha hx hy
      have e2 : f_X7_covering s (iI (x : Int)) (iI (y : Int)) (0 : Int32) = some (iI (cvI a x y (aN a) 0)) := z_covering hl ha hx hy (k := 0) (by omega)
      have e3 : f_X7_covering s (iI (x : Int)) (iI (y : Int)) (1 : Int32) = some (iI (cvI a x y (aN a) 1)) := z_covering hl ha hx hy (k := 1) (by omega)
      have e4 : f_X7_covering s (iI (x : Int)) (iI (y : Int)) (iI (aN a : Int)) = some (-109 : Int32) := by
        rw [z_covering hl ha hx hy (by omega), cvI_big a x y (aN a) _ (by omega)]
        rfl
      have e5 := fun ss => z_count0 hl ha hG hi tx ss
      have et : cvI a x y (aN a) 0 = if top a x y = -1 then -109 else top a x y := cvI_top a x y (aN a)
      rw [b_L_cells_26]
      simp (disch := omega) only [iI_le]
      rw [if_neg (by omega), e1, ob_some, e2, ob_some, e3, ob_some]
      rcases cvI_two a x y (aN a) with ⟨h0, h1⟩ | ⟨l0, hl0, h0, h1⟩
      · have htop : top a x y = -1 := by
          by_cases c : top a x y = -1
          · exact c
          · rw [if_neg c, h0] at et
            omega
        rw [if_pos htop] at hp
        rw [h0, h1, htop]
        simp only [g_L_cells_110, g_L_cells_134, f1, f2, f3, ↓reduceIte, ob_some, x_nm_eq, e4, e5, Sum.elim_inr, iI_suc]
        exact ⟨G u, by rw [hp]; rfl, trivial⟩
      · have ho := ha.o hl0
        have htop : top a x y = (aO a l0 : Int) := by
          by_cases c : top a x y = -1
          · rw [if_pos c, h0] at et
            omega
          · rw [if_neg c, h0] at et
            exact et.symm
        have g1 : (iI (aO a l0 : Int) = (-1 : Int32)) = False := eq_false (fun z => by
          have := (iI_eq (by omega) (by omega) (by omega) (by omega)).mp (show iI (aO a l0 : Int) = iI (-1) from z)
          omega)
        have g2 : (iI (aO a l0 : Int) = (-109 : Int32)) = False := eq_false (fun z => by
          have := (iI_eq (by omega) (by omega) (by omega) (by omega)).mp (show iI (aO a l0 : Int) = iI (-109) from z)
          omega)
        rw [if_neg (by rw [htop]; omega)] at hp
        rw [htop, h0]
        rcases h1 with h1 | ⟨l1, hl1, h1⟩
        · rw [h1]
          simp only [g_L_cells_110, g_L_cells_134, g1, g2, f2, f3, ↓reduceIte, ob_some, x_nm_eq, e4, e5, Sum.elim_inr, iI_suc, Int32.add_zero]
          exact ⟨G u, by rw [hp]; rfl, trivial⟩
        · have ho1 := ha.o (show l1 < aN a by omega)
          have g3 : (iI (aO a l1 : Int) < (0 : Int32)) = False := eq_false (fun z => by
            have := (iI_lt (by omega) (by omega) (by omega) (by omega)).mp (show iI (aO a l1 : Int) < iI 0 from z)
            omega)
          have e6 := fun ss pa => z_piece6 hl ha hG ho ss pa
          have e7 := fun ss pa => z_piece6 hl ha hG ho1 ss pa
          rw [lyr_at ha hl0] at e6
          rw [lyr_at ha (by omega)] at e7
          have g4 : (iI (l0 : Int) ≤ iI (l1 : Int)) = False := eq_false (fun z => by
            have := (iI_le (by omega) (by omega) (by omega) (by omega)).mp z
            omega)
          rw [h1]
          simp only [g_L_cells_110, g_L_cells_134, g1, g2, g3, g4, f2, ↓reduceIte, ob_some, x_nm_eq, e4, e5, e6, e7, Sum.elim_inr, iI_suc, Int32.add_zero]
          exact ⟨G (G (G u)), by rw [hp]; rfl, trivial⟩)
    (by
      intro u _
      rw [b_L_cells_26]
      simp (disch := omega) only [iI_le]
      rw [if_pos (by omega)]
      exact ⟨_, rfl, _, rfl⟩) ss trivial (by omega)
  obtain ⟨b, e, ss', rfl⟩ := key
  exact ⟨ss', e⟩
theorem ce_out (hl : LOK s a) (ha : AOK a) (hG : LK s a G) (hi : HiS) (tx : TxS) (ss : SiS) (pa : PaS) : ∃ ss', x_loop (b_L_cells_17 s hi tx (iI (aR a : Int)) (iI (aC a : Int))) x_fuel ((0 : Int32), (0 : Int32), ss, pa) = some (.inr (iI (sumN (fun x => pgC a x (aR a)) (aC a) : Int), iI (aC a : Int), ss', pa)) := by
  have hb := ha.b
  have key := x_for (B := b_L_cells_17 s hi tx (iI (aR a : Int)) (iI (aC a : Int))) (fun i (u : SiS) => (iI (sumN (fun x => pgC a x (aR a)) i : Int), iI (i : Int), u, pa)) (fun _ _ => True) (aC a) (fun b => ∃ ss', b = Sum.inr (iI (sumN (fun x => pgC a x (aR a)) (aC a) : Int), iI (aC a : Int), ss', pa))
    (by
      intro x u hx _
      left
      obtain ⟨ss', e⟩ := ce_in hl ha hG hi tx hx u pa (sumN (fun x => pgC a x (aR a)) x)
      rw [b_L_cells_17]
      simp (disch := omega) only [iI_le]
      rw [if_neg (by omega), e, ob_some]
      exact ⟨ss', by rw [← iI_suc]; rfl, trivial⟩)
    (by
      intro u _
      rw [b_L_cells_17]
      simp (disch := omega) only [iI_le]
      rw [if_pos (by omega)]
      exact ⟨_, rfl, _, rfl⟩) ss trivial (by omega)
  obtain ⟨b, e, ss', rfl⟩ := key
  exact ⟨ss', e⟩
theorem pg_sum (a : AL) : sumN (fun x => pgC a x (aR a)) (aC a) = cnt a (-1) := (S2_swap a (fun x y => if top a x y = -1 then 1 else 0)).symm
theorem z_cells (hl : LOK s a) (ha : AOK a) (hi : HiS) (tx : TxS) (ss : SiS) (pa : PaS) : ∃ ss', f_L_cells s ss pa hi tx = some ((1 : Int32), ss', pa) := by
  have hb := ha.b
  obtain ⟨G, hG⟩ := LK_ex hl ha
  obtain ⟨ss1, e1⟩ := ce_out hl ha hG hi tx (G (G ss)) pa
  have e2 : f_X7_seen s (iI (aC a : Int)) (0 : Int32) = some (-101 : Int32) := z_seen_no hl ha (y := 0) (by omega) (by omega) (by omega)
  have e3 : f_X7_seen s (0 : Int32) (iI (aR a : Int)) = some (-101 : Int32) := z_seen_no hl ha (x := 0) (by omega) (by omega) (by omega)
  have e4 : f_X7_covering s (-1 : Int32) (0 : Int32) (0 : Int32) = some (-101 : Int32) := by
    rw [show (-1 : Int32) = iI (-1) from rfl]
    exact z_covering_no hl ha (x := -1) (y := 0) (by omega) (by omega) (by omega) 0
  unfold f_L_cells
  simp only [z_count1 hl ha hG, z_count2 hl ha hG, ob_some, e1, Sum.elim_inr, z_count6 hl ha hG, pg_sum, ↓reduceIte, e2, e3, e4]
  exact ⟨_, rfl⟩
end ZU
