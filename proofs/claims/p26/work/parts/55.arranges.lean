/-! p26: arranges -/
section ZW
variable {s : LyS} {a : AL}
theorem ar_loop {G : SiS → SiS} (hl : LOK s a) (ha : AOK a) (hG : LK s a G) (hi : HiS) (h0 h1 h2 h3 h4 : LyS) (tx : TxS) {n : Nat} (hn : n ≤ 12) (hst : n = 12 ∨ ist a) (ss : SiS) (pa : PaS) (pl : PlS) (tr : LyS) (ps : SiS) : ∃ z ss' pa' pl' tr' ps', x_loop (b_L_arranges_126 tx (iI (n : Int)) (iI (aN a : Int)) s hi h0 h1 h2 h3 h4) x_fuel ((0 : Int32), ss, pa, pl, tr, ps) = some (.inr (z, ss', pa', pl', tr', ps')) := by
  have hb := ha.b
  have hcl := cons_le a
  have key := x_for (B := b_L_arranges_126 tx (iI (n : Int)) (iI (aN a : Int)) s hi h0 h1 h2 h3 h4) (fun i (u : SiS × PaS × PlS × LyS × SiS) => (iI (i : Int), u.1, u.2.1, u.2.2.1, u.2.2.2.1, u.2.2.2.2)) (fun _ _ => True) (aN a) (fun b => ∃ z ss' pa' pl' tr' ps', b = Sum.inr (z, ss', pa', pl', tr', ps'))
    (by
      rintro i ⟨ss, pa, pl, tr, ps⟩ hi' -
      have p8 := fun ss pa => z_piece8 hl ha hG hi' ss pa
      rw [b_L_arranges_126]
      simp (disch := omega) only [iL_12, iI_le]
      rw [if_neg (by omega)]
      by_cases c12 : (12 : Int) ≤ (n : Int)
      · right
        rw [if_pos c12]
        exact ⟨_, rfl, _, _, _, _, _, _, rfl⟩
      · rw [if_neg c12, z_count3 hl ha hG, ob_some]
        dsimp only
        simp (disch := omega) only [iI_le]
        by_cases cn : (aN a : Int) ≤ (cons a : Int)
        · right
          rw [if_pos cn]
          exact ⟨_, rfl, _, _, _, _, _, _, rfl⟩
        · left
          rw [if_neg cn, p8, ob_some]
          dsimp only
          by_cases cc : con a i = true
          · have f1 : (bI (con a i = true) = 0) = False := eq_false (by rw [bI_t cc]; decide)
            simp only [f1, ↓reduceIte, iI_suc]
            exact ⟨(_, _, _, _, _), rfl, trivial⟩
          · have f1 : (bI (con a i = true) = 0) = True := eq_true (by rw [bI_f cc])
            have hs0 : ist a := by
              rcases hst with h | h
              · omega
              · exact h
            have hno := bst_none (aN a) hs0 i hi' cc
            obtain ⟨pl', tr', ps', e⟩ := z_least hl ha hi' (aim := 1) (w := 0) (by omega) (by omega) pl tr ps
            have e : f_X7_leastShift s pl tr ps (iI (i : Int)) (1 : Int32) (0 : Int32) = some (iI (lsv a i 1 0), pl', tr', ps') := e
            rw [lsv_none (aim := 1) hno] at e
            have f2 : (iI (-109) = (-109 : Int32)) = True := eq_true rfl
            simp only [f1, f2, e, ob_some, ↓reduceIte, iI_suc]
            exact ⟨(_, _, _, _, _), rfl, trivial⟩)
    (by
      rintro ⟨ss, pa, pl, tr, ps⟩ -
      rw [b_L_arranges_126]
      simp (disch := omega) only [iI_le]
      rw [if_pos (by omega)]
      exact ⟨_, rfl, _, _, _, _, _, _, rfl⟩) (ss, pa, pl, tr, ps) trivial (by omega)
  obtain ⟨b, e, z, ss', pa', pl', tr', ps', rfl⟩ := key
  exact ⟨z, ss', pa', pl', tr', ps', e⟩
theorem z_arranges {c : Int} {hi : HiS} {k : Nat} (hs : CS s a c) (hc0 : 0 ≤ c ∧ c ≤ 1000000) (hH : HK hi k) (ss : SiS) (pa : PaS) (pl : PlS) (tr : LyS) (ps : SiS) (h0 h1 h2 h3 h4 : LyS) (tx : TxS) : ∃ s' ss' pa' pl' tr' ps' hi' h0' h1' h2' h3' h4' k', f_L_arranges s ss pa pl tr ps hi h0 h1 h2 h3 h4 tx = some ((1 : Int32), s', ss', pa', pl', tr', ps', hi', h0', h1', h2', h3', h4') ∧ CS s' a c ∧ HK hi' k' := by
  obtain ⟨ha, hl, hc⟩ := id hs
  have hb := ha.b
  have hcl := cons_le a
  obtain ⟨G, hG⟩ := LK_ex hl ha
  by_cases hcn : cons a = aN a
  · unfold f_L_arranges
    rw [z_count3 hl ha hG, ob_some]
    dsimp only
    rw [z_count0 hl ha hG, ob_some]
    dsimp only
    rw [z_count7 hl ha hG, ob_some]
    dsimp only
    rw [z_count8 hl ha hG, ob_some]
    dsimp only
    rw [z_arrange0 hl ha hG hcn, ob_some]
    dsimp only
    rw [if_pos (show iI (cons a : Int) = iI (aN a : Int) by rw [hcn]), if_pos rfl, z_count8 hl ha hG, ob_some]
    dsimp only
    rw [if_pos rfl]
    exact ⟨s, _, pa, pl, tr, ps, hi, h0, h1, h2, h3, h4, k, rfl, hs, hH⟩
  · obtain ⟨n, d, s', ss', pl', tr', ps', t0, t1, t2, t3, t4, t5, k', e1, n12, hst, hs', hd1, hd2, hN, hcs, hK', hU⟩ := z_arrange hs hH hcn (G (G (G (G ss)))) pl tr ps h0 h1 h2 h3 h4
    obtain ⟨ha', hl', hc'⟩ := id hs'
    have hb' := ha'.b
    have hcl' := cons_le (itr a n)
    obtain ⟨G', hG'⟩ := LK_ex hl' ha'
    obtain ⟨s2, hi2, e2, q2, hK2⟩ := hU s'
    have hs2 := hs.eq q2
    obtain ⟨-, hl2, hc2⟩ := id hs2
    obtain ⟨G2, hG2⟩ := LK_ex hl2 ha
    obtain ⟨z, ss4, pa4, pl4, tr4, ps4, e4⟩ := ar_loop hl' ha' hG' t0 t1 t2 t3 t4 t5 tx n12 hst (G' (G' (G' (G' ss')))) pa pl' tr' ps'
    obtain ⟨ss5, pa5, e5⟩ := z_sound hl' ha' t0 tx ss4 pa4
    have g1 : ¬ (iI (cons a : Int) = iI (aN a : Int)) := (fun z => by
      have := (iI_eq (by omega) (by omega) (by omega) (by omega)).mp z
      omega)
    have g2 : ¬ (iI (n : Int) < (0 : Int32)) := (fun z => by
      have := (iI_lt (by omega) (by omega) (by omega) (by omega)).mp (show iI (n : Int) < iI 0 from z)
      omega)
    have g3 : ¬ ((12 : Int32) < iI (n : Int)) := (fun z => by
      have := (iI_lt (by omega) (by omega) (by omega) (by omega)).mp (show iI 12 < iI (n : Int) from z)
      omega)
    have g4 : ¬ (iI (cons (itr a n) : Int) < iI (cons a : Int)) := (fun z => by
      have := (iI_lt (by omega) (by omega) (by omega) (by omega)).mp z
      omega)
    have g5 : ¬ (iI (c + (d : Int)) < iI c + iI (n : Int)) := (fun z => by
      rw [iI_add] at z
      have := (iI_lt (by omega) (by omega) (by omega) (by omega)).mp z
      omega)
    have g6 : ¬ (iI c + (8 : Int32) * iI (n : Int) < iI (c + (d : Int))) := (fun z => by
      rw [iL_8, iI_mul, iI_add] at z
      have := (iI_lt (by omega) (by omega) (by omega) (by omega)).mp z
      omega)
    have g7 : ¬ ((1 : Int32) = 0) := by decide
    have hkb := hK2.b
    have g8 : ¬ (iI (k' : Int) < (0 : Int32)) := (fun z => by
      have := (iI_lt (by omega) (by omega) (by omega) (by omega)).mp (show iI (k' : Int) < iI 0 from z)
      omega)
    rw [hN] at e4
    unfold f_L_arranges
    rw [z_count3 hl ha hG, ob_some]
    dsimp only
    rw [z_count0 hl ha hG, ob_some]
    dsimp only
    rw [z_count7 hl ha hG, ob_some]
    dsimp only
    rw [z_count8 hl ha hG, ob_some]
    dsimp only
    rw [hc, e1, ob_some]
    dsimp only
    rw [if_neg g1, if_neg g2, if_neg g3, z_count3 hl' ha' hG', ob_some]
    dsimp only
    rw [if_neg g4, z_count7 hl' ha' hG', hc', ob_some]
    dsimp only
    rw [if_neg g5, z_count7 hl' ha' hG', hc', ob_some]
    dsimp only
    rw [if_neg g6, z_count0 hl' ha' hG', hN, ob_some]
    dsimp only
    rw [if_pos rfl, e4, ob_some, Sum.elim_inr]
    dsimp only
    rw [e5, ob_some]
    dsimp only
    rw [if_neg g7, e2, ob_some]
    dsimp only
    rw [if_neg g8, z_count3 hl2 ha hG2, ob_some]
    dsimp only
    rw [if_pos rfl, z_count7 hl2 ha hG2, hc2, ob_some]
    dsimp only
    rw [if_pos rfl]
    exact ⟨s2, _, pa5, pl4, tr4, ps4, hi2, t1, t2, t3, t4, t5, k', rfl, hs2, hK2⟩
end ZW
