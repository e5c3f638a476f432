/-! p26: the law's loop, the law -/
section ZZ
def lwI (n : Nat) (u : STL) : Prop := ∃ a c k, CS u.1 a c ∧ HK u.2.2.2.2.2.2.1 k ∧ aN a ≤ 7 ∧ 0 ≤ c ∧ c ≤ 100 * (n : Int)
theorem z_rem {n m : Nat} (hn : n < 1000) (hm : 0 < m) (hm2 : m < 1000) : x_rem (iI (n : Int)) (iI (m : Int)) = some (iI ((n % m : Nat) : Int)) := by
  rw [x_remI (by omega) (by omega) (by omega) (by omega)]
  rfl
theorem lw_step (X : xCtx) (hX : xSn X ≤ 1000) {n : Nat} (hn : n < 30) {u : STL} (hI : lwI n u) : ∃ u', b_L_law_63 X (iI (n : Int), u) = some (.inl (iI ((n + 1 : Nat) : Int), u')) ∧ lwI (n + 1) u' := by
  obtain ⟨s, ss, pa, pl, tr, ps, hi, h0, h1, h2, h3, h4, tx⟩ := u
  obtain ⟨a, c, k, hs, hH, h7, hc1, hc2⟩ := hI
  dsimp only at hs hH
  obtain ⟨ha, hl, hc⟩ := id hs
  have hb := ha.b
  obtain ⟨G, hG⟩ := LK_ex hl ha
  obtain ⟨x, ex⟩ := z_lot X hX (p := 2 * n) (by omega)
  obtain ⟨y, ey⟩ := z_lot X hX (p := 2 * n + 1) (by omega)
  have m1 : (2 : Int32) * iI (n : Int) = iI ((2 * n : Nat) : Int) := by
    rw [iL_2, iI_mul]
    congr 1
  have z1 : ((1 : Int32) = 0) = False := eq_false (by decide)
  obtain ⟨how, hw, e110⟩ : ∃ how : Nat, how < 10 ∧ g_L_law_110 x (iI (n : Int)) = some (iI (how : Int)) := by
    unfold g_L_law_110
    by_cases q : 4 ≤ n
    · obtain ⟨r, hr, er⟩ := z_low x (m := 10) (by omega) (by omega)
      have er : f_L_low x (10 : Int32) = _ := er
      rw [if_pos (show (4 : Int32) ≤ iI (n : Int) from (leN 4 n (by omega) (by omega)).mpr q), er, ob_some]
      exact ⟨r, hr, rfl⟩
    · rw [if_neg (show ¬ (4 : Int32) ≤ iI (n : Int) from fun z => q ((leN 4 n (by omega) (by omega)).mp z))]
      exact ⟨0, by omega, rfl⟩
  obtain ⟨kk, hk, e129⟩ : ∃ kk : Nat, (0 < aN a → kk < aN a) ∧ g_L_law_129 x (iI (aN a : Int)) = some (iI (kk : Int)) := by
    unfold g_L_law_129
    by_cases q : aN a = 0
    · rw [if_pos (show iI (aN a : Int) = 0 from (eqN (aN a) 0 (by omega) (by omega)).mpr q)]
      exact ⟨0, fun z => by omega, rfl⟩
    · obtain ⟨r, hr, er⟩ := z_low (x >>> ((5 : Int32) &&& 31)) (m := aN a) (by omega) (by omega)
      rw [if_neg (show ¬ iI (aN a : Int) = 0 from fun z => q ((eqN (aN a) 0 (by omega) (by omega)).mp z)), er, ob_some]
      exact ⟨r, fun _ => hr, rfl⟩
  obtain ⟨s1, ss1, pa1, pl1, tr1, ps1, hi1, a0, a1, a2, a3, a4, tx1, b, d, k1, e1, hs1, hK1, hb7, hd1, hd2⟩ := op_all hs hH h7 (G ss) pa pl tr ps h0 h1 h2 h3 h4 tx y hw hk
  obtain ⟨hb1, hl1, hc1'⟩ := id hs1
  obtain ⟨ss2, pa2, e2⟩ := z_sound hl1 hb1 hi1 tx1 ss1 pa1
  have r4 : x_rem (iI (n : Int)) (4 : Int32) = _ := z_rem (m := 4) (by omega) (by omega) (by omega)
  have r7 : x_rem (iI (n : Int)) (7 : Int32) = _ := z_rem (m := 7) (by omega) (by omega) (by omega)
  have r15 : x_rem (iI (n : Int)) (15 : Int32) = _ := z_rem (m := 15) (by omega) (by omega) (by omega)
  obtain ⟨ss3, e875⟩ : ∃ ss3, g_L_law_875 (iI ((n % 4 : Nat) : Int)) s1 ss2 pa2 pl1 tr1 ps1 hi1 a0 a1 a2 a3 a4 tx1 = some (.inr (ss3, pa2)) := by
    unfold g_L_law_875
    by_cases q : n % 4 = 3
    · obtain ⟨ss3, f1⟩ := z_cells hl1 hb1 hi1 tx1 ss2 pa2
      obtain ⟨ss4, f2⟩ := z_shares hl1 hb1 hi1 tx1 ss3 pa2
      have g1 : (iI ((n % 4 : Nat) : Int) = (3 : Int32)) = True := eq_true ((eqN (n % 4) 3 (by omega) (by omega)).mpr q)
      simp only [g1, f1, f2, z1, ob_some, ↓reduceIte]
      exact ⟨_, rfl⟩
    · have g1 : (iI ((n % 4 : Nat) : Int) = (3 : Int32)) = False := eq_false (fun z => q ((eqN (n % 4) 3 (by omega) (by omega)).mp z))
      simp only [g1, ↓reduceIte]
      exact ⟨_, rfl⟩
  obtain ⟨G1, hG1⟩ := LK_ex hl1 hb1
  have hbb := hb1.b
  obtain ⟨s4, ss4, pa4, pl4, tr4, ps4, hi4, b0, b1, b2, b3, b4, k4, e912, hs4, hK4⟩ : ∃ s4 ss4 pa4 pl4 tr4 ps4 hi4 b0 b1 b2 b3 b4 k4, g_L_law_912 y (iI ((n % 7 : Nat) : Int)) s1 ss3 pa2 pl1 tr1 ps1 hi1 a0 a1 a2 a3 a4 tx1 = some (.inr (s4, ss4, pa4, pl4, tr4, ps4, hi4, b0, b1, b2, b3, b4)) ∧ CS s4 b d ∧ HK hi4 k4 := by
    unfold g_L_law_912
    by_cases q : n % 7 = 6
    · have g1 : (iI ((n % 7 : Nat) : Int) = (6 : Int32)) = True := eq_true ((eqN (n % 7) 6 (by omega) (by omega)).mpr q)
      by_cases q2 : aN b = 0
      · have g2 : (iI (aN b : Int) ≤ (0 : Int32)) = True := eq_true ((leN (aN b) 0 (by omega) (by omega)).mpr (by omega))
        simp only [g1, z_count0 hl1 hb1 hG1, g2, ob_some, ↓reduceIte]
        exact ⟨_, _, _, _, _, _, _, _, _, _, _, _, k1, rfl, hs1, hK1⟩
      · have g2 : (iI (aN b : Int) ≤ (0 : Int32)) = False := eq_false (fun z => by have := (leN (aN b) 0 (by omega) (by omega)).mp z; omega)
        obtain ⟨r, hr, er⟩ := z_low (y >>> ((9 : Int32) &&& 31)) (m := aN b) (by omega) (by omega)
        obtain ⟨s4, ss4, pa4, pl4, tr4, ps4, hi4, b0, b1, b2, b3, b4, k4, f1, hs4, hK4⟩ := z_plans hb1 hr tx1 hs1 hK1 (G1 (G1 ss3)) pa2 pl1 tr1 ps1 a0 a1 a2 a3 a4
        simp only [g1, z_count0 hl1 hb1 hG1, g2, er, f1, z1, ob_some, ↓reduceIte]
        exact ⟨_, _, _, _, _, _, _, _, _, _, _, _, k4, rfl, hs4, hK4⟩
    · have g1 : (iI ((n % 7 : Nat) : Int) = (6 : Int32)) = False := eq_false (fun z => q ((eqN (n % 7) 6 (by omega) (by omega)).mp z))
      simp only [g1, ↓reduceIte]
      exact ⟨_, _, _, _, _, _, _, _, _, _, _, _, k1, rfl, hs1, hK1⟩
  have f30 : ((30 : Int32) ≤ iI (n : Int)) = False := eq_false (fun z => by have := (leN 30 n (by omega) (by omega)).mp z; omega)
  rw [b_L_law_63]
  by_cases q : n % 15 = 14
  · obtain ⟨s5, ss5, pa5, pl5, tr5, ps5, hi5, c0, c1, c2, c3, c4, k5, e3, hs5, hK5⟩ := z_arranges hs4 (by omega) hK4 ss4 pa4 pl4 tr4 ps4 b0 b1 b2 b3 b4 tx1
    have g1 : (iI ((n % 15 : Nat) : Int) = (14 : Int32)) = True := eq_true ((eqN (n % 15) 14 (by omega) (by omega)).mpr q)
    simp only [f30, m1, ex, iI_suc, ey, z_count0 hl ha hG, e110, e129, e1, Sum.elim_inr, e2, z1, r4, e875, r7, e912, r15, g1, e3, ob_some, ↓reduceIte]
    exact ⟨(s5, ss5, pa5, pl5, tr5, ps5, hi5, c0, c1, c2, c3, c4, tx1), rfl, b, d, k5, hs5, hK5, hb7, by omega, by omega⟩
  · have g1 : (iI ((n % 15 : Nat) : Int) = (14 : Int32)) = False := eq_false (fun z => q ((eqN (n % 15) 14 (by omega) (by omega)).mp z))
    simp only [f30, m1, ex, iI_suc, ey, z_count0 hl ha hG, e110, e129, e1, Sum.elim_inr, e2, z1, r4, e875, r7, e912, r15, g1, ob_some, ↓reduceIte]
    exact ⟨(s4, ss4, pa4, pl4, tr4, ps4, hi4, b0, b1, b2, b3, b4, tx1), rfl, b, d, k4, hs4, hK4, hb7, by omega, by omega⟩
theorem lw_loop (X : xCtx) (hX : xSn X ≤ 1000) {u : STL} (hI : lwI 0 u) : ∃ z u', x_loop (b_L_law_63 X) x_fuel ((0 : Int32), u) = some (.inr (z, u')) ∧ lwI 30 u' := by
  have key := x_for (B := b_L_law_63 X) (fun i (u : STL) => (iI (i : Int), u)) lwI 30 (fun b => ∃ z u', b = Sum.inr (z, u') ∧ lwI 30 u')
    (fun n u hn hI => Or.inl (lw_step X hX hn hI))
    (by
      rintro ⟨s, ss, pa, pl, tr, ps, hi, h0, h1, h2, h3, h4, tx⟩ hI
      rw [b_L_law_63, if_pos (by decide)]
      exact ⟨_, rfl, _, _, rfl, hI⟩) u hI (by omega)
  obtain ⟨b, e, z, u', rfl, h⟩ := key
  exact ⟨z, u', e, h⟩
/-- the law answers 1 -/
theorem law_one (X : xCtx) (hX : xSn X ≤ 1000) {s : LyS} {a : AL} {hi : HiS} (hs : CS s a 0) (hH : HK hi 0) (h0' : aN a = 0) (hC : aC a = 16) (hR : aR a = 12) (ss : SiS) (pa : PaS) (pl : PlS) (tr : LyS) (ps : SiS) (h0 h1 h2 h3 h4 : LyS) (tx : TxS) : ∃ R, f_L_law X s ss pa pl tr ps hi h0 h1 h2 h3 h4 tx = some R ∧ R.1 = (1 : Int32) := by
  obtain ⟨ha, hl, hc⟩ := id hs
  obtain ⟨G, hG⟩ := LK_ex hl ha
  obtain ⟨ss1, pa1, pl1, tr1, ps1, e1⟩ := z_refuses hs hH ss pa pl tr ps h0 h1 h2 h3 h4 tx
  have e2 := z_undo0 hH s h0 h1 h2 h3 h4
  obtain ⟨ss2, pa2, e3⟩ := z_sound hl ha hi tx ss1 pa1
  obtain ⟨ss3, e4⟩ := z_cells hl ha hi tx ss2 pa2
  obtain ⟨tr2, ps2, e5⟩ := z_worst0 hl h0' tr1 ps1
  have e6 : cnt a (-1) = 192 := by
    have := page_sum ha
    rw [h0', hC, hR] at this
    have e : sumN (fun p : Nat => cnt a (p : Int)) 0 = 0 := rfl
    omega
  have e7 : (iI (cnt a (-1) : Int) = (192 : Int32)) = True := eq_true (by rw [e6]; rfl)
  have z1 : ((1 : Int32) = 0) = False := eq_false (by decide)
  obtain ⟨z, ⟨s', ss', pa', pl', tr', ps', hi', g0, g1, g2, g3, g4, tx'⟩, e8, a', c', k', hs', hK', -⟩ := lw_loop X hX (u := (s, G ss3, pa2, pl1, tr2, ps2, hi, h0, h1, h2, h3, h4, tx)) ⟨a, 0, 0, hs, hH, by omega, by omega, by omega⟩
  obtain ⟨ss5, pa5, pl5, tr5, ps5, e9⟩ := z_refuses hs' hK' ss' pa' pl' tr' ps' g0 g1 g2 g3 g4 tx'
  unfold f_L_law
  simp only [e1, z1, e2, e3, e4, e5, z_count6 hl ha hG, e7, e8, Sum.elim_inr, e9, x_zr1, ob_some, ↓reduceIte]
  exact ⟨_, rfl, rfl⟩
end ZZ
