/-! p26: the law -/
theorem z_low (v : Int32) {m : Nat} (hm : 0 < m) (hm2 : m < 1000) : ∃ r : Nat, r < m ∧ f_L_low v (iI (m : Int)) = some (iI (r : Int)) := by
  have h : (v &&& (2147483647 : Int32)).toBitVec.toNat ≤ 2147483647 := by
    rw [Int32.toBitVec_and, BitVec.toNat_and]
    exact Nat.and_le_right
  have h2 : (v &&& (2147483647 : Int32)).toInt = ((v &&& (2147483647 : Int32)).toBitVec.toNat : Int) := by
    show (v &&& (2147483647 : Int32)).toBitVec.toInt = _
    rw [BitVec.toInt_eq_toNat_cond, if_pos (by omega)]
  obtain ⟨z, hz1, hz2, hz⟩ := iI_of (v &&& (2147483647 : Int32))
  have hz3 : 0 ≤ z := by
    rw [hz, iI_toInt hz1 hz2] at h2
    omega
  have hr1 : 0 ≤ z % (m : Int) := Int.emod_nonneg _ (by omega)
  have hr2 : z % (m : Int) < (m : Int) := Int.emod_lt_of_pos _ (by omega)
  refine ⟨(z % (m : Int)).toNat, by omega, ?_⟩
  unfold f_L_low
  rw [hz, x_remI hz3 hz2 (by omega) (by omega), ob_some]
  congr 2
  omega
theorem z_lot (X : xCtx) (hX : xSn X ≤ 1000) {p : Nat} (hp : p < 1000) : ∃ v, f_L_lot X (iI (p : Int)) = some v := by
  unfold f_L_lot
  rw [nI_iI]
  by_cases c : xSn X ≤ p
  · rw [if_pos ((iI_le (by omega) (by omega) (by omega) (by omega)).mpr (by omega))]
    exact ⟨_, rfl⟩
  · rw [if_neg (fun z => c (by have := (iI_le (by omega) (by omega) (by omega) (by omega)).mp z; omega)), x_ldI rfl (by omega) (by omega), ob_some]
    exact ⟨_, rfl⟩
theorem leN (m n : Nat) (hm : m < 100000) (hn : n < 100000) : (iI (m : Int) ≤ iI (n : Int)) ↔ m ≤ n := by
  rw [iI_le (by omega) (by omega) (by omega) (by omega)]
  omega
theorem eqN (m n : Nat) (hm : m < 100000) (hn : n < 100000) : (iI (m : Int) = iI (n : Int)) ↔ m = n := by
  rw [iI_eq (by omega) (by omega) (by omega) (by omega)]
  omega
theorem ltN (m n : Nat) (hm : m < 100000) (hn : n < 100000) : (iI (m : Int) < iI (n : Int)) ↔ m < n := by
  rw [iI_lt (by omega) (by omega) (by omega) (by omega)]
  omega
abbrev RTL : Type := Int32 × LyS × SiS × PaS × PlS × LyS × SiS × HiS × LyS × LyS × LyS × LyS × LyS × TxS
abbrev STL : Type := LyS × SiS × PaS × PlS × LyS × SiS × HiS × LyS × LyS × LyS × LyS × LyS × TxS
def opR (c : Int) (r : Option (RTL ⊕ STL)) : Prop := ∃ s' ss' pa' pl' tr' ps' hi' h0' h1' h2' h3' h4' tx' a' c' k', r = some (.inr (s', ss', pa', pl', tr', ps', hi', h0', h1', h2', h3', h4', tx')) ∧ CS s' a' c' ∧ HK hi' k' ∧ aN a' ≤ 7 ∧ c ≤ c' ∧ c' ≤ c + 100
section ZY
variable {s : LyS} {a : AL} {c : Int} {hi : HiS} {k : Nat}
theorem op_add (hs : CS s a c) (hH : HK hi k) (h7 : aN a ≤ 7) (ss : SiS) (pa : PaS) (pl : PlS) (tr : LyS) (ps : SiS) (h0 h1 h2 h3 h4 : LyS) (tx : TxS) (y : Int32) {kk how : Nat} (hw : how < 10) (hh : how < 2) (hn : aN a < 7) : opR c (g_L_law_847 (iI (kk : Int)) y (iI (aN a : Int)) (iI (how : Int)) s ss pa pl tr ps hi h0 h1 h2 h3 h4 tx) := by
  obtain ⟨ha, hl, hc⟩ := id hs
  have hb := ha.b
  obtain ⟨G, hG⟩ := LK_ex hl ha
  obtain ⟨x1, hx1, ex1⟩ := z_low y (m := 14) (by omega) (by omega)
  obtain ⟨x2, hx2, ex2⟩ := z_low (y >>> ((4 : Int32) &&& 31)) (m := 11) (by omega) (by omega)
  obtain ⟨x3, hx3, ex3⟩ := z_low (y >>> ((8 : Int32) &&& 31)) (m := 6) (by omega) (by omega)
  obtain ⟨x4, hx4, ex4⟩ := z_low (y >>> ((12 : Int32) &&& 31)) (m := 6) (by omega) (by omega)
  obtain ⟨x5, hx5, ex5⟩ := z_low (y >>> ((16 : Int32) &&& 31)) (m := 101) (by omega) (by omega)
  have ex1 : f_L_low y (14 : Int32) = _ := ex1
  have ex2 : f_L_low (y >>> ((4 : Int32) &&& 31)) (11 : Int32) = _ := ex2
  have ex3 : f_L_low (y >>> ((8 : Int32) &&& 31)) (6 : Int32) = _ := ex3
  have ex4 : f_L_low (y >>> ((12 : Int32) &&& 31)) (6 : Int32) = _ := ex4
  have ex5 : f_L_low (y >>> ((16 : Int32) &&& 31)) (101 : Int32) = _ := ex5
  have s1 : iI (x1 : Int) - (3 : Int32) = iI ((x1 : Int) - 3) := iI_sub _ 3
  have s2 : iI (x2 : Int) - (3 : Int32) = iI ((x2 : Int) - 3) := iI_sub _ 3
  have s3 : (1 : Int32) + iI (x3 : Int) = iI (1 + (x3 : Int)) := iI_add 1 _
  have s4 : (1 : Int32) + iI (x4 : Int) = iI (1 + (x4 : Int)) := iI_add 1 _
  obtain ⟨s', t0, t1, t2, t3, t4, t5, k', v, e1, hs', hK', -, v0, v4, v5⟩ := z_addPiece hs hH h0 h1 h2 h3 h4 (by omega) (x := (x1 : Int) - 3) (y := (x2 : Int) - 3) (w := 1 + (x3 : Int)) (u := 1 + (x4 : Int)) (q := (x5 : Int)) (by omega) (by omega) (by omega) (by omega) (by omega)
  obtain ⟨ha', hl', hc'⟩ := id hs'
  obtain ⟨G', hG'⟩ := LK_ex hl' ha'
  have hN : aN (aAdd a v) = aN a + 1 := rfl
  have hp : aN a < aN (aAdd a v) := by omega
  have p6 := fun ss pa => z_piece6 hl' ha' hG' hp ss pa
  have p0 := fun ss pa => z_piece0 hl' ha' hp ss pa
  have p4 := fun ss pa => z_piece4 hl' ha' hp ss pa
  have p5 := fun ss pa => z_piece5 hl' ha' hp ss pa
  have u0 : ∀ w, aP (aAdd a v) (aN a) w = v w := fun w => if_pos rfl
  have uL : lyr (aAdd a v) (aN a) = aN a := by
    have := lyr_at ha' hp
    rw [show aO (aAdd a v) (aN a) = aN a from if_pos rfl] at this
    exact this
  rw [uL] at p6
  rw [u0, v0] at p0
  rw [u0, v4] at p4
  rw [u0, v5] at p5
  have c2 : ((2 : Int32) ≤ iI (how : Int)) = False := eq_false (fun z => by have := (leN 2 (how) (by omega) (by omega)).mp z; omega)
  have c7 : ((7 : Int32) ≤ iI (aN a : Int)) = False := eq_false (fun z => by have := (leN 7 (aN a) (by omega) (by omega)).mp z; omega)
  have z0 : (iI 0 = (0 : Int32)) = True := eq_true rfl
  unfold g_L_law_847
  simp only [c2, c7, z0, ex1, ex2, ex3, ex4, ex5, s1, s2, s3, s4, e1, p6, p0, p4, p5, ob_some, x_nm_eq, ↓reduceIte]
  exact ⟨s', _, _, _, _, _, t0, _, _, _, _, _, _, _, c, k' + 1, rfl, hs', hK', by omega, by omega, by omega⟩
theorem op_page (hs : CS s a c) (hH : HK hi k) (h7 : aN a ≤ 7) (ss : SiS) (pa : PaS) (pl : PlS) (tr : LyS) (ps : SiS) (h0 h1 h2 h3 h4 : LyS) (tx : TxS) (y : Int32) {kk how : Nat} (hw : how < 10) (hh : how = 2) : opR c (g_L_law_847 (iI (kk : Int)) y (iI (aN a : Int)) (iI (how : Int)) s ss pa pl tr ps hi h0 h1 h2 h3 h4 tx) := by
  obtain ⟨ha, hl, hc⟩ := id hs
  have hb := ha.b
  obtain ⟨G, hG⟩ := LK_ex hl ha
  obtain ⟨x1, hx1, ex1⟩ := z_low y (m := 12) (by omega) (by omega)
  obtain ⟨x2, hx2, ex2⟩ := z_low (y >>> ((5 : Int32) &&& 31)) (m := 12) (by omega) (by omega)
  have ex1 : f_L_low y (12 : Int32) = _ := ex1
  have ex2 : f_L_low (y >>> ((5 : Int32) &&& 31)) (12 : Int32) = _ := ex2
  have s1 : (4 : Int32) + iI (x1 : Int) = iI ((4 + x1 : Nat) : Int) := iI_addN 4 x1
  have s2 : (4 : Int32) + iI (x2 : Int) = iI ((4 + x2 : Nat) : Int) := iI_addN 4 x2
  obtain ⟨s', ss', t0, t1, t2, t3, t4, t5, k', e1, hs', hK', -⟩ := z_setPage hs hH h0 h1 h2 h3 h4 ss (x := 4 + x1) (y := 4 + x2) (by omega) (by omega)
  obtain ⟨ha', hl', hc'⟩ := id hs'
  obtain ⟨G', hG'⟩ := LK_ex hl' ha'
  have uC : aC ((4 + x1, 4 + x2, aN a), a.2) = 4 + x1 := rfl
  have uN : aN ((4 + x1, 4 + x2, aN a), a.2) = aN a := rfl
  have c2 : ((2 : Int32) ≤ iI (how : Int)) = True := eq_true ((leN 2 (how) (by omega) (by omega)).mpr (by omega))
  have c2e : (iI (how : Int) = (2 : Int32)) = True := eq_true ((eqN (how) 2 (by omega) (by omega)).mpr (by omega))
  unfold g_L_law_847
  simp only [c2, c2e, ex1, ex2, s1, s2, e1, z_count3 hl' ha' hG', z_count1 hl' ha' hG', z_count0 hl' ha' hG', uC, uN, ob_some, x_nm_eq, ↓reduceIte]
  exact ⟨s', _, _, _, _, _, t0, _, _, _, _, _, _, _, c, k' + 1, rfl, hs', hK', by rw [uN]; omega, by omega, by omega⟩
theorem op_empty (hs : CS s a c) (hH : HK hi k) (h7 : aN a ≤ 7) (ss : SiS) (pa : PaS) (pl : PlS) (tr : LyS) (ps : SiS) (h0 h1 h2 h3 h4 : LyS) (tx : TxS) (y : Int32) {kk how : Nat} (hw : how < 10) (hh : 3 ≤ how) (hn : aN a = 0) : opR c (g_L_law_847 (iI (kk : Int)) y (iI (aN a : Int)) (iI (how : Int)) s ss pa pl tr ps hi h0 h1 h2 h3 h4 tx) := by
  obtain ⟨ha, hl, hc⟩ := id hs
  have hb := ha.b
  obtain ⟨G, hG⟩ := LK_ex hl ha
  obtain ⟨ss1, pa1, pl1, tr1, ps1, e1⟩ := z_refuses hs hH ss pa pl tr ps h0 h1 h2 h3 h4 tx
  have c2 : ((2 : Int32) ≤ iI (how : Int)) = True := eq_true ((leN 2 (how) (by omega) (by omega)).mpr (by omega))
  have c2e : (iI (how : Int) = (2 : Int32)) = False := eq_false (fun z => by have := (eqN (how) 2 (by omega) (by omega)).mp z; omega)
  have n0 : (iI (aN a : Int) = (0 : Int32)) = True := eq_true ((eqN (aN a) 0 (by omega) (by omega)).mpr (by omega))
  have z1 : ((1 : Int32) = 0) = False := eq_false (by decide)
  unfold g_L_law_847
  simp only [c2, c2e, n0, z1, e1, ob_some, ↓reduceIte]
  exact ⟨s, _, _, _, _, _, hi, _, _, _, _, _, _, _, c, k, rfl, hs, hH, h7, by omega, by omega⟩
theorem op_remove (hs : CS s a c) (hH : HK hi k) (h7 : aN a ≤ 7) (ss : SiS) (pa : PaS) (pl : PlS) (tr : LyS) (ps : SiS) (h0 h1 h2 h3 h4 : LyS) (tx : TxS) (y : Int32) {kk how : Nat} (hw : how < 10) (hh : how = 3) (hk : kk < aN a) : opR c (g_L_law_847 (iI (kk : Int)) y (iI (aN a : Int)) (iI (how : Int)) s ss pa pl tr ps hi h0 h1 h2 h3 h4 tx) := by
  obtain ⟨ha, hl, hc⟩ := id hs
  have hb := ha.b
  obtain ⟨G, hG⟩ := LK_ex hl ha
  obtain ⟨l0, hl0, e0⟩ := ha.sur hk
  obtain ⟨s', t0, t1, t2, t3, t4, t5, k', e1, hs', hK', hU⟩ := z_removePiece hs hH h0 h1 h2 h3 h4 hl0
  rw [e0] at e1
  obtain ⟨ha', hl', hc'⟩ := id hs'
  obtain ⟨G', hG'⟩ := LK_ex hl' ha'
  have uN : aN (aRem a l0) = aN a - 1 := rfl
  have el : iI (aN a : Int) - (1 : Int32) = iI ((aN a - 1 : Nat) : Int) := by
    rw [iL_1, iI_sub]
    congr 1
    omega
  have el2 : iI ((aN a - 1 : Nat) : Int) - iI (kk : Int) = iI ((aN a - 1 - kk : Nat) : Int) := by
    rw [iI_sub]
    congr 1
    omega
  obtain ⟨r, hr, er⟩ := z_low y (m := 2) (by omega) (by omega)
  have er : f_L_low y (2 : Int32) = _ := er
  obtain ⟨s2, hi2, e2, q2, hK2⟩ := hU s'
  have hs2 := hs.eq q2
  obtain ⟨-, hl2, hc2⟩ := id hs2
  obtain ⟨G2, hG2⟩ := LK_ex hl2 ha
  have hkb := hK2.b
  have f9 : (iI (k' : Int) < (0 : Int32)) = False := eq_false (fun z => by have := (ltN k' 0 (by omega) (by omega)).mp z; omega)
  have c2 : ((2 : Int32) ≤ iI (how : Int)) = True := eq_true ((leN 2 (how) (by omega) (by omega)).mpr (by omega))
  have c2e : (iI (how : Int) = (2 : Int32)) = False := eq_false (fun z => by have := (eqN (how) 2 (by omega) (by omega)).mp z; omega)
  have c3 : (iI (how : Int) = (3 : Int32)) = True := eq_true ((eqN (how) 3 (by omega) (by omega)).mpr (by omega))
  have n0 : (iI (aN a : Int) = (0 : Int32)) = False := eq_false (fun z => by have := (eqN (aN a) 0 (by omega) (by omega)).mp z; omega)
  -- the piece behind it moves up
  obtain ⟨v, ss1, h397⟩ : ∃ v ss1, g_L_law_397 (iI ((aN a - 1 - kk : Nat) : Int)) (iI (kk : Int)) s ss pa = some (v, ss1, pa) ∧ ∃ ss2, g_L_law_429 v (iI (kk : Int)) (iI ((aN a - 1 - kk : Nat) : Int)) s' ss1 pa pl tr ps t0 t1 t2 t3 t4 t5 tx = some (.inr (ss2, pa)) := by
    unfold g_L_law_397 g_L_law_429
    by_cases d : aN a - 1 - kk = 0
    · have f1 : (iI ((aN a - 1 - kk : Nat) : Int) ≤ (0 : Int32)) = True := eq_true ((leN _ 0 (by omega) (by omega)).mpr (by omega))
      simp only [f1, ↓reduceIte]
      exact ⟨_, _, rfl, _, rfl⟩
    · have f1 : (iI ((aN a - 1 - kk : Nat) : Int) ≤ (0 : Int32)) = False := eq_false (fun z => by have := (leN _ 0 (by omega) (by omega)).mp z; omega)
      have p0 := z_piece0 hl ha (p := kk + 1) (by omega) ss pa
      have p0' := fun ss pa => z_piece0 hl' ha' (p := kk) (by omega) ss pa
      have eP : aP (aRem a l0) kk 0 = aP a (kk + 1) 0 := by
        show (if kk < aO a l0 then aP a kk 0 else aP a (kk + 1) 0) = _
        rw [if_neg (by omega)]
      rw [eP] at p0'
      simp only [f1, ↓reduceIte, iI_suc, p0, ob_some, p0']
      exact ⟨_, _, rfl, _, if_pos rfl⟩
  obtain ⟨h397, ss2, h429⟩ := h397
  unfold g_L_law_847
  by_cases d : r = 0
  · have f2 : (iI (r : Int) = 0) = True := eq_true (by rw [d]; rfl)
    simp only [c2, c2e, c3, n0, el, el2, h397, e1, h429, Sum.elim_inr, er, f2, e2, f9, z_count0 hl2 ha hG2, ob_some, x_nm_eq, ↓reduceIte]
    exact ⟨s2, _, _, _, _, _, hi2, _, _, _, _, _, _, _, c, k', rfl, hs2, hK2, h7, by omega, by omega⟩
  · have f2 : (iI (r : Int) = 0) = False := eq_false (fun z => by have := (eqN r 0 (by omega) (by omega)).mp z; omega)
    simp only [c2, c2e, c3, n0, el, el2, h397, e1, h429, Sum.elim_inr, er, f2, ob_some, x_nm_eq, ↓reduceIte]
    exact ⟨s', _, _, _, _, _, t0, _, _, _, _, _, _, _, c, k' + 1, rfl, hs', hK', by omega, by omega, by omega⟩
theorem op_share (hs : CS s a c) (hH : HK hi k) (h7 : aN a ≤ 7) (ss : SiS) (pa : PaS) (pl : PlS) (tr : LyS) (ps : SiS) (h0 h1 h2 h3 h4 : LyS) (tx : TxS) (y : Int32) {kk how : Nat} (hw : how < 10) (hh : how = 4) (hk : kk < aN a) : opR c (g_L_law_847 (iI (kk : Int)) y (iI (aN a : Int)) (iI (how : Int)) s ss pa pl tr ps hi h0 h1 h2 h3 h4 tx) := by
  obtain ⟨ha, hl, hc⟩ := id hs
  have hb := ha.b
  obtain ⟨G, hG⟩ := LK_ex hl ha
  obtain ⟨r, hr, er⟩ := z_low y (m := 101) (by omega) (by omega)
  have er : f_L_low y (101 : Int32) = _ := er
  obtain ⟨s', t0, t1, t2, t3, t4, t5, k', e1, hs', hK', -⟩ := z_setShare hs hH h0 h1 h2 h3 h4 hk (v := (r : Int)) (by omega)
  obtain ⟨ha', hl', hc'⟩ := id hs'
  obtain ⟨G', hG'⟩ := LK_ex hl' ha'
  have p := z_piece4 hl ha hk ss pa
  have p' := z_piece4 hl' ha' (p := kk) hk ss pa
  have eP : aP (aSet a kk 4 (r : Int)) kk 4 = (r : Int) := if_pos ⟨rfl, rfl⟩
  rw [eP] at p'
  have c2 : ((2 : Int32) ≤ iI (how : Int)) = True := eq_true ((leN 2 (how) (by omega) (by omega)).mpr (by omega))
  have c2e : (iI (how : Int) = (2 : Int32)) = False := eq_false (fun z => by have := (eqN (how) 2 (by omega) (by omega)).mp z; omega)
  have c3 : (iI (how : Int) = (3 : Int32)) = False := eq_false (fun z => by have := (eqN (how) 3 (by omega) (by omega)).mp z; omega)
  have c4 : (iI (how : Int) = (4 : Int32)) = True := eq_true ((eqN (how) 4 (by omega) (by omega)).mpr (by omega))
  have c5 : (iI (how : Int) = (5 : Int32)) = False := eq_false (fun z => by have := (eqN (how) 5 (by omega) (by omega)).mp z; omega)
  have n0 : (iI (aN a : Int) = (0 : Int32)) = False := eq_false (fun z => by have := (eqN (aN a) 0 (by omega) (by omega)).mp z; omega)
  unfold g_L_law_847
  simp only [c2, c2e, c3, c4, c5, n0, p, er, e1, p', ob_some, ↓reduceIte]
  exact ⟨s', _, _, _, _, _, t0, _, _, _, _, _, _, _, c, k' + 1, rfl, hs', hK', h7, by omega, by omega⟩
theorem op_frame (hs : CS s a c) (hH : HK hi k) (h7 : aN a ≤ 7) (ss : SiS) (pa : PaS) (pl : PlS) (tr : LyS) (ps : SiS) (h0 h1 h2 h3 h4 : LyS) (tx : TxS) (y : Int32) {kk how : Nat} (hw : how < 10) (hh : how = 5) (hk : kk < aN a) : opR c (g_L_law_847 (iI (kk : Int)) y (iI (aN a : Int)) (iI (how : Int)) s ss pa pl tr ps hi h0 h1 h2 h3 h4 tx) := by
  obtain ⟨ha, hl, hc⟩ := id hs
  have hb := ha.b
  obtain ⟨G, hG⟩ := LK_ex hl ha
  obtain ⟨r, hr, er⟩ := z_low y (m := 4) (by omega) (by omega)
  have er : f_L_low y (4 : Int32) = _ := er
  obtain ⟨s', t0, t1, t2, t3, t4, t5, k', e1, hs', hK', -⟩ := z_setFrame hs hH h0 h1 h2 h3 h4 hk (v := (r : Int)) (by omega)
  obtain ⟨ha', hl', hc'⟩ := id hs'
  obtain ⟨G', hG'⟩ := LK_ex hl' ha'
  have p := z_piece5 hl ha hk ss pa
  have p' := z_piece5 hl' ha' (p := kk) hk ss pa
  have eP : aP (aSet a kk 5 (r : Int)) kk 5 = (r : Int) := if_pos ⟨rfl, rfl⟩
  rw [eP] at p'
  have c2 : ((2 : Int32) ≤ iI (how : Int)) = True := eq_true ((leN 2 (how) (by omega) (by omega)).mpr (by omega))
  have c2e : (iI (how : Int) = (2 : Int32)) = False := eq_false (fun z => by have := (eqN (how) 2 (by omega) (by omega)).mp z; omega)
  have c3 : (iI (how : Int) = (3 : Int32)) = False := eq_false (fun z => by have := (eqN (how) 3 (by omega) (by omega)).mp z; omega)
  have c4 : (iI (how : Int) = (4 : Int32)) = False := eq_false (fun z => by have := (eqN (how) 4 (by omega) (by omega)).mp z; omega)
  have c5 : (iI (how : Int) = (5 : Int32)) = True := eq_true ((eqN (how) 5 (by omega) (by omega)).mpr (by omega))
  have n0 : (iI (aN a : Int) = (0 : Int32)) = False := eq_false (fun z => by have := (eqN (aN a) 0 (by omega) (by omega)).mp z; omega)
  unfold g_L_law_847
  simp only [c2, c2e, c3, c4, c5, n0, p, er, e1, p', ob_some, ↓reduceIte]
  exact ⟨s', _, _, _, _, _, t0, _, _, _, _, _, _, _, c, k' + 1, rfl, hs', hK', h7, by omega, by omega⟩
theorem op_layer (hs : CS s a c) (hH : HK hi k) (h7 : aN a ≤ 7) (ss : SiS) (pa : PaS) (pl : PlS) (tr : LyS) (ps : SiS) (h0 h1 h2 h3 h4 : LyS) (tx : TxS) (y : Int32) {kk how : Nat} (hw : how < 10) (hh : 8 ≤ how) (hk : kk < aN a) : opR c (g_L_law_847 (iI (kk : Int)) y (iI (aN a : Int)) (iI (how : Int)) s ss pa pl tr ps hi h0 h1 h2 h3 h4 tx) := by
  obtain ⟨ha, hl, hc⟩ := id hs
  have hb := ha.b
  obtain ⟨G, hG⟩ := LK_ex hl ha
  obtain ⟨l0, hl0, e0⟩ := ha.sur hk
  subst e0
  obtain ⟨l1, hl1, er⟩ := z_low y (m := aN a) (by omega) (by omega)
  obtain ⟨s', t0, t1, t2, t3, t4, t5, k', e1, hs', hK', -⟩ := z_setLayer hs hH h0 h1 h2 h3 h4 hl0 hl1
  obtain ⟨ha', hl', hc'⟩ := id hs'
  obtain ⟨G', hG'⟩ := LK_ex hl' ha'
  have uN : aN (aMov a l0 l1) = aN a := rfl
  have p6 := z_piece6 hl ha hG hk ss pa
  rw [lyr_at ha hl0] at p6
  have i1 := z_inLayer hl ha hl1
  have i2 := z_inLayer hl' ha' (l := l1) hl1
  rw [aMov_at] at i2
  have ho1 := ha.o hl1
  have c2 : ((2 : Int32) ≤ iI (how : Int)) = True := eq_true ((leN 2 (how) (by omega) (by omega)).mpr (by omega))
  have c2e : (iI (how : Int) = (2 : Int32)) = False := eq_false (fun z => by have := (eqN (how) 2 (by omega) (by omega)).mp z; omega)
  have c3 : (iI (how : Int) = (3 : Int32)) = False := eq_false (fun z => by have := (eqN (how) 3 (by omega) (by omega)).mp z; omega)
  have c4 : (iI (how : Int) = (4 : Int32)) = False := eq_false (fun z => by have := (eqN (how) 4 (by omega) (by omega)).mp z; omega)
  have c5 : (iI (how : Int) = (5 : Int32)) = False := eq_false (fun z => by have := (eqN (how) 5 (by omega) (by omega)).mp z; omega)
  have c8 : ((8 : Int32) ≤ iI (how : Int)) = True := eq_true ((leN 8 (how) (by omega) (by omega)).mpr (by omega))
  have n0 : (iI (aN a : Int) = (0 : Int32)) = False := eq_false (fun z => by have := (eqN (aN a) 0 (by omega) (by omega)).mp z; omega)
  unfold g_L_law_847
  by_cases d : l1 = l0
  · have f1 : (iI (aO a l1 : Int) = iI (aO a l0 : Int)) = True := eq_true (by rw [d])
    simp only [c2, c2e, c3, c4, c5, c8, n0, p6, er, i1, e1, i2, f1, ob_some, ↓reduceIte]
    exact ⟨s', _, _, _, _, _, t0, _, _, _, _, _, _, _, c, k' + 1, rfl, hs', hK', h7, by omega, by omega⟩
  · have f1 : (iI (aO a l1 : Int) = iI (aO a l0 : Int)) = False := eq_false (fun z => by
      have := (eqN _ _ (by omega) (by omega)).mp z
      exact d (ha.inj hl1 hl0 this))
    -- where the other one is then
    obtain ⟨l2, hl2⟩ : ∃ l2, l2 = if l1 ≤ l0 then l1 + 1 else l1 - 1 := ⟨_, rfl⟩
    have hb2 : l2 < aN a := by rw [hl2]; split <;> omega
    have eo : aO (aMov a l0 l1) l2 = aO a l1 := by
      rw [aMov_O]
      unfold mvO
      rw [hl2]
      by_cases q : l1 ≤ l0
      · rw [if_pos q, if_neg (by omega), if_neg (by omega), if_pos (by omega)]
        rfl
      · rw [if_neg q, if_neg (by omega), if_pos (by omega), show l1 - 1 + 1 = l1 by omega]
    have p6' := z_piece6 hl' ha' hG' (p := aO a l1) ho1 (G ss) pa
    have eL := lyr_at ha' (l := l2) hb2
    rw [eo] at eL
    rw [eL] at p6'
    by_cases q : l1 ≤ l0
    · have f2 : (iI (l1 : Int) ≤ iI (l0 : Int)) = True := eq_true ((leN _ _ (by omega) (by omega)).mpr q)
      rw [if_pos q] at hl2
      have f3 : (iI (l2 : Int) = iI ((l1 + 1 : Nat) : Int)) = True := eq_true (by rw [hl2])
      simp only [c2, c2e, c3, c4, c5, c8, n0, p6, er, i1, e1, i2, f1, p6', f2, iI_suc, f3, ob_some, ↓reduceIte]
      exact ⟨s', _, _, _, _, _, t0, _, _, _, _, _, _, _, c, k' + 1, rfl, hs', hK', h7, by omega, by omega⟩
    · have f2 : (iI (l1 : Int) ≤ iI (l0 : Int)) = False := eq_false (fun z => q ((leN _ _ (by omega) (by omega)).mp z))
      rw [if_neg q] at hl2
      have el : iI (l1 : Int) - (1 : Int32) = iI ((l1 - 1 : Nat) : Int) := by
        rw [iL_1, iI_sub]
        congr 1
        omega
      have f3 : (iI (l2 : Int) = iI ((l1 - 1 : Nat) : Int)) = True := eq_true (by rw [hl2])
      simp only [c2, c2e, c3, c4, c5, c8, n0, p6, er, i1, e1, i2, f1, p6', f2, el, f3, ob_some, ↓reduceIte]
      exact ⟨s', _, _, _, _, _, t0, _, _, _, _, _, _, _, c, k' + 1, rfl, hs', hK', h7, by omega, by omega⟩
theorem op_shift (hs : CS s a c) (hH : HK hi k) (h7 : aN a ≤ 7) (ss : SiS) (pa : PaS) (pl : PlS) (tr : LyS) (ps : SiS) (h0 h1 h2 h3 h4 : LyS) (tx : TxS) (y : Int32) {kk how : Nat} (hw : how < 10) (hh : how = 6 ∨ how = 7) (hk : kk < aN a) : opR c (g_L_law_847 (iI (kk : Int)) y (iI (aN a : Int)) (iI (how : Int)) s ss pa pl tr ps hi h0 h1 h2 h3 h4 tx) := by
  obtain ⟨ha, hl, hc⟩ := id hs
  have hb := ha.b
  obtain ⟨G, hG⟩ := LK_ex hl ha
  have hv := ha.p hk
  obtain ⟨x1, hx1, ex1⟩ := z_low y (m := 9) (by omega) (by omega)
  obtain ⟨x2, hx2, ex2⟩ := z_low (y >>> ((4 : Int32) &&& 31)) (m := 9) (by omega) (by omega)
  have ex1 : f_L_low y (9 : Int32) = _ := ex1
  have ex2 : f_L_low (y >>> ((4 : Int32) &&& 31)) (9 : Int32) = _ := ex2
  obtain ⟨dx, hdx⟩ : ∃ dx : Int, dx = (x1 : Int) - 4 := ⟨_, rfl⟩
  obtain ⟨dy, hdy⟩ : ∃ dy : Int, dy = (x2 : Int) - 4 := ⟨_, rfl⟩
  have s1 : iI (x1 : Int) - (4 : Int32) = iI dx := by rw [hdx]; exact iI_sub _ 4
  have s2 : iI (x2 : Int) - (4 : Int32) = iI dy := by rw [hdy]; exact iI_sub _ 4
  have p0 := z_piece0 hl ha hk ss pa
  have p1 := z_piece1 hl ha hk ss pa
  have hX := ab_b dx
  have hY := ab_b dy
  have a1 := absI (x := dx) (by omega)
  have hmay : (if iI (aP a kk 0) + iI dx < (-20 : Int32) then some (0 : Int32) else if (40 : Int32) < iI (aP a kk 0) + iI dx then some (0 : Int32) else if iI (aP a kk 1) + iI dy < (-20 : Int32) then some (0 : Int32) else if (40 : Int32) < iI (aP a kk 1) + iI dy then some (0 : Int32) else some (1 : Int32)) = some (bI ((-20 ≤ aP a kk 0 + dx ∧ aP a kk 0 + dx ≤ 40) ∧ -20 ≤ aP a kk 1 + dy ∧ aP a kk 1 + dy ≤ 40)) := by
    rw [iI_add, iI_add, show (-20 : Int32) = iI (-20) from rfl, show (40 : Int32) = iI 40 from rfl]
    simp (disch := omega) only [iI_lt]
    unfold bI
    repeat' split
    all_goals first | rfl | (exfalso; omega)
  have hab : (if (0 : Int32) ≤ iI dy then some (iI (ab dx) + iI dy) else some (iI (ab dx) + (-iI dy))) = some (iI (ab dx + ab dy)) := by
    have e : ((0 : Int32) ≤ iI dy) ↔ 0 ≤ dy := iI_le (a := 0) (by omega) (by omega) (by omega) (by omega)
    by_cases q : 0 ≤ dy
    · rw [if_pos (e.mpr q), iI_add, show ab dy = dy by unfold ab; rw [if_pos q]]
    · rw [if_neg (fun z => q (e.mp z)), iI_neg, iI_add, show ab dy = -dy by unfold ab; rw [if_neg q]]
  have z0 : ((0 : Int32) = 0) = True := eq_true rfl
  have z1 : ((1 : Int32) = 0) = False := eq_false (by decide)
  have c2 : ((2 : Int32) ≤ iI (how : Int)) = True := eq_true ((leN 2 (how) (by omega) (by omega)).mpr (by omega))
  have c2e : (iI (how : Int) = (2 : Int32)) = False := eq_false (fun z => by have := (eqN (how) 2 (by omega) (by omega)).mp z; omega)
  have c3 : (iI (how : Int) = (3 : Int32)) = False := eq_false (fun z => by have := (eqN (how) 3 (by omega) (by omega)).mp z; omega)
  have c4 : (iI (how : Int) = (4 : Int32)) = False := eq_false (fun z => by have := (eqN (how) 4 (by omega) (by omega)).mp z; omega)
  have c5 : (iI (how : Int) = (5 : Int32)) = False := eq_false (fun z => by have := (eqN (how) 5 (by omega) (by omega)).mp z; omega)
  have c8 : ((8 : Int32) ≤ iI (how : Int)) = False := eq_false (fun z => by have := (leN 8 (how) (by omega) (by omega)).mp z; omega)
  have n0 : (iI (aN a : Int) = (0 : Int32)) = False := eq_false (fun z => by have := (eqN (aN a) 0 (by omega) (by omega)).mp z; omega)
  unfold g_L_law_847
  by_cases hm : (-20 ≤ aP a kk 0 + dx ∧ aP a kk 0 + dx ≤ 40) ∧ -20 ≤ aP a kk 1 + dy ∧ aP a kk 1 + dy ≤ 40
  · obtain ⟨s', t0, t1, t2, t3, t4, t5, k', e1, hs', hK', -⟩ := z_shift hs hH h0 h1 h2 h3 h4 hk (dx := dx) (dy := dy) (by omega) (by omega) hm
    obtain ⟨ha', hl', hc'⟩ := id hs'
    have p0' := z_piece0 hl' ha' (p := kk) hk ss pa
    have p1' := z_piece1 hl' ha' (p := kk) hk ss pa
    have u0 : aP (aSh a kk dx dy) kk 0 = aP a kk 0 + dx := by rw [aSh_P, if_pos ⟨rfl, rfl⟩]
    have u1 : aP (aSh a kk dx dy) kk 1 = aP a kk 1 + dy := by rw [aSh_P, if_neg (by omega), if_pos ⟨rfl, rfl⟩]
    rw [u0] at p0'
    rw [u1] at p1'
    rw [bI_t hm] at hmay
    simp only [iI_add] at hmay hab
    simp only [c2, c2e, c3, c4, c5, c8, n0, ex1, ex2, s1, s2, p0, p1, hmay, e1, z1, a1, hab, p0', p1', iI_add, ob_some, x_nm_eq, ↓reduceIte]
    exact ⟨s', _, _, _, _, _, t0, _, _, _, _, _, _, _, c + (ab dx + ab dy), k' + 1, rfl, hs', hK', h7, by omega, by omega⟩
  · have e1 := z_shift_no (hi := hi) hs h0 h1 h2 h3 h4 hk (dx := dx) (dy := dy) (by omega) (by omega) hm
    rw [bI_f hm] at hmay
    simp only [c2, c2e, c3, c4, c5, c8, n0, ex1, ex2, s1, s2, p0, p1, hmay, e1, z0, ob_some, x_nm_eq, ↓reduceIte]
    exact ⟨s, _, _, _, _, _, hi, _, _, _, _, _, _, _, c, k, rfl, hs, hH, h7, by omega, by omega⟩
theorem op_shift7 (hs : CS s a c) (hH : HK hi k) (h7 : aN a ≤ 7) (ss : SiS) (pa : PaS) (pl : PlS) (tr : LyS) (ps : SiS) (h0 h1 h2 h3 h4 : LyS) (tx : TxS) (y : Int32) {kk how : Nat} (hw : how < 10) (hh : how < 2) (hn : aN a = 7) (hk : kk < aN a) : opR c (g_L_law_847 (iI (kk : Int)) y (iI (aN a : Int)) (iI (how : Int)) s ss pa pl tr ps hi h0 h1 h2 h3 h4 tx) := by
  obtain ⟨ha, hl, hc⟩ := id hs
  have hb := ha.b
  obtain ⟨G, hG⟩ := LK_ex hl ha
  have hv := ha.p hk
  obtain ⟨x1, hx1, ex1⟩ := z_low y (m := 9) (by omega) (by omega)
  obtain ⟨x2, hx2, ex2⟩ := z_low (y >>> ((4 : Int32) &&& 31)) (m := 9) (by omega) (by omega)
  have ex1 : f_L_low y (9 : Int32) = _ := ex1
  have ex2 : f_L_low (y >>> ((4 : Int32) &&& 31)) (9 : Int32) = _ := ex2
  obtain ⟨dx, hdx⟩ : ∃ dx : Int, dx = (x1 : Int) - 4 := ⟨_, rfl⟩
  obtain ⟨dy, hdy⟩ : ∃ dy : Int, dy = (x2 : Int) - 4 := ⟨_, rfl⟩
  have s1 : iI (x1 : Int) - (4 : Int32) = iI dx := by rw [hdx]; exact iI_sub _ 4
  have s2 : iI (x2 : Int) - (4 : Int32) = iI dy := by rw [hdy]; exact iI_sub _ 4
  have p0 := z_piece0 hl ha hk ss pa
  have p1 := z_piece1 hl ha hk ss pa
  have hX := ab_b dx
  have hY := ab_b dy
  have a1 := absI (x := dx) (by omega)
  have hmay : (if iI (aP a kk 0) + iI dx < (-20 : Int32) then some (0 : Int32) else if (40 : Int32) < iI (aP a kk 0) + iI dx then some (0 : Int32) else if iI (aP a kk 1) + iI dy < (-20 : Int32) then some (0 : Int32) else if (40 : Int32) < iI (aP a kk 1) + iI dy then some (0 : Int32) else some (1 : Int32)) = some (bI ((-20 ≤ aP a kk 0 + dx ∧ aP a kk 0 + dx ≤ 40) ∧ -20 ≤ aP a kk 1 + dy ∧ aP a kk 1 + dy ≤ 40)) := by
    rw [iI_add, iI_add, show (-20 : Int32) = iI (-20) from rfl, show (40 : Int32) = iI 40 from rfl]
    simp (disch := omega) only [iI_lt]
    unfold bI
    repeat' split
    all_goals first | rfl | (exfalso; omega)
  have hab : (if (0 : Int32) ≤ iI dy then some (iI (ab dx) + iI dy) else some (iI (ab dx) + (-iI dy))) = some (iI (ab dx + ab dy)) := by
    have e : ((0 : Int32) ≤ iI dy) ↔ 0 ≤ dy := iI_le (a := 0) (by omega) (by omega) (by omega) (by omega)
    by_cases q : 0 ≤ dy
    · rw [if_pos (e.mpr q), iI_add, show ab dy = dy by unfold ab; rw [if_pos q]]
    · rw [if_neg (fun z => q (e.mp z)), iI_neg, iI_add, show ab dy = -dy by unfold ab; rw [if_neg q]]
  have z0 : ((0 : Int32) = 0) = True := eq_true rfl
  have z1 : ((1 : Int32) = 0) = False := eq_false (by decide)
  have c2 : ((2 : Int32) ≤ iI (how : Int)) = False := eq_false (fun z => by have := (leN 2 (how) (by omega) (by omega)).mp z; omega)
  have c7 : ((7 : Int32) ≤ iI (aN a : Int)) = True := eq_true ((leN 7 (aN a) (by omega) (by omega)).mpr (by omega))
  have c2e : (iI (how : Int) = (2 : Int32)) = False := eq_false (fun z => by have := (eqN (how) 2 (by omega) (by omega)).mp z; omega)
  have c3 : (iI (how : Int) = (3 : Int32)) = False := eq_false (fun z => by have := (eqN (how) 3 (by omega) (by omega)).mp z; omega)
  have c4 : (iI (how : Int) = (4 : Int32)) = False := eq_false (fun z => by have := (eqN (how) 4 (by omega) (by omega)).mp z; omega)
  have c5 : (iI (how : Int) = (5 : Int32)) = False := eq_false (fun z => by have := (eqN (how) 5 (by omega) (by omega)).mp z; omega)
  have c8 : ((8 : Int32) ≤ iI (how : Int)) = False := eq_false (fun z => by have := (leN 8 (how) (by omega) (by omega)).mp z; omega)
  have n0 : (iI (aN a : Int) = (0 : Int32)) = False := eq_false (fun z => by have := (eqN (aN a) 0 (by omega) (by omega)).mp z; omega)
  unfold g_L_law_847
  by_cases hm : (-20 ≤ aP a kk 0 + dx ∧ aP a kk 0 + dx ≤ 40) ∧ -20 ≤ aP a kk 1 + dy ∧ aP a kk 1 + dy ≤ 40
  · obtain ⟨s', t0, t1, t2, t3, t4, t5, k', e1, hs', hK', -⟩ := z_shift hs hH h0 h1 h2 h3 h4 hk (dx := dx) (dy := dy) (by omega) (by omega) hm
    obtain ⟨ha', hl', hc'⟩ := id hs'
    have p0' := z_piece0 hl' ha' (p := kk) hk ss pa
    have p1' := z_piece1 hl' ha' (p := kk) hk ss pa
    have u0 : aP (aSh a kk dx dy) kk 0 = aP a kk 0 + dx := by rw [aSh_P, if_pos ⟨rfl, rfl⟩]
    have u1 : aP (aSh a kk dx dy) kk 1 = aP a kk 1 + dy := by rw [aSh_P, if_neg (by omega), if_pos ⟨rfl, rfl⟩]
    rw [u0] at p0'
    rw [u1] at p1'
    rw [bI_t hm] at hmay
    simp only [iI_add] at hmay hab
    simp only [c2, c7, c2e, c3, c4, c5, c8, n0, ex1, ex2, s1, s2, p0, p1, hmay, e1, z1, a1, hab, p0', p1', iI_add, ob_some, x_nm_eq, ↓reduceIte]
    exact ⟨s', _, _, _, _, _, t0, _, _, _, _, _, _, _, c + (ab dx + ab dy), k' + 1, rfl, hs', hK', h7, by omega, by omega⟩
  · have e1 := z_shift_no (hi := hi) hs h0 h1 h2 h3 h4 hk (dx := dx) (dy := dy) (by omega) (by omega) hm
    rw [bI_f hm] at hmay
    simp only [c2, c7, c2e, c3, c4, c5, c8, n0, ex1, ex2, s1, s2, p0, p1, hmay, e1, z0, ob_some, x_nm_eq, ↓reduceIte]
    exact ⟨s, _, _, _, _, _, hi, _, _, _, _, _, _, _, c, k, rfl, hs, hH, h7, by omega, by omega⟩
theorem op_all (hs : CS s a c) (hH : HK hi k) (h7 : aN a ≤ 7) (ss : SiS) (pa : PaS) (pl : PlS) (tr : LyS) (ps : SiS) (h0 h1 h2 h3 h4 : LyS) (tx : TxS) (y : Int32) {kk how : Nat} (hw : how < 10) (hk : 0 < aN a → kk < aN a) : opR c (g_L_law_847 (iI (kk : Int)) y (iI (aN a : Int)) (iI (how : Int)) s ss pa pl tr ps hi h0 h1 h2 h3 h4 tx) := by
  by_cases n0 : aN a = 0
  · by_cases q : how < 2
    · exact op_add hs hH h7 ss pa pl tr ps h0 h1 h2 h3 h4 tx y hw q (by omega)
    · by_cases q2 : how = 2
      · exact op_page hs hH h7 ss pa pl tr ps h0 h1 h2 h3 h4 tx y hw q2
      · exact op_empty hs hH h7 ss pa pl tr ps h0 h1 h2 h3 h4 tx y hw (by omega) n0
  · have hk := hk (by omega)
    rcases (show how < 2 ∨ how = 2 ∨ how = 3 ∨ how = 4 ∨ how = 5 ∨ (how = 6 ∨ how = 7) ∨ 8 ≤ how by omega) with q | q | q | q | q | q | q
    · by_cases q2 : aN a = 7
      · exact op_shift7 hs hH h7 ss pa pl tr ps h0 h1 h2 h3 h4 tx y hw q q2 hk
      · exact op_add hs hH h7 ss pa pl tr ps h0 h1 h2 h3 h4 tx y hw q (by omega)
    · exact op_page hs hH h7 ss pa pl tr ps h0 h1 h2 h3 h4 tx y hw q
    · exact op_remove hs hH h7 ss pa pl tr ps h0 h1 h2 h3 h4 tx y hw q hk
    · exact op_share hs hH h7 ss pa pl tr ps h0 h1 h2 h3 h4 tx y hw q hk
    · exact op_frame hs hH h7 ss pa pl tr ps h0 h1 h2 h3 h4 tx y hw q hk
    · exact op_shift hs hH h7 ss pa pl tr ps h0 h1 h2 h3 h4 tx y hw q hk
    · exact op_layer hs hH h7 ss pa pl tr ps h0 h1 h2 h3 h4 tx y hw q hk
end ZY
