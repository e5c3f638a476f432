/-! the calls that change, on both sides -/
theorem LOK.congr {s : LyS} {a b : AL} (h : LOK s a) (h1 : a.1 = b.1) (h2 : ∀ q u, q < aN a → u < 6 → aP a q u = aP b q u) (h3 : ∀ l, l < aN a → aO a l = aO b l) : LOK s b := by
  have eC : aC b = aC a := by unfold aC; rw [h1]
  have eR : aR b = aR a := by unfold aR; rw [h1]
  have eN : aN b = aN a := by unfold aN; rw [h1]
  refine ⟨by rw [eC]; exact h.c, by rw [eR]; exact h.r, by rw [eN]; exact h.n, fun p w hp hw => ?_, fun l hl => ?_⟩
  · rw [eN] at hp
    rw [← h2 p w hp hw]
    exact h.p hp hw
  · rw [eN] at hl
    rw [← h3 l hl]
    exact h.o hl
section QC
variable {s : LyS} {m : Nat → Int32} {t : HT} {st : Nat → Int32} {cnt : Int32}
theorem q_setPage (h : LM s m) (hH : HR t st cnt) (p0 p1 : Int32) (ss : SiS) (sh so : Nat → Int32) : ∃ v s' ss' t' m' st' cnt' sh' so', f_X7_setPage s ss t.1 t.2.1 t.2.2.1 t.2.2.2.1 t.2.2.2.2.1 t.2.2.2.2.2 p0 p1 = some (v, s', ss', t') ∧ f_X8_setPage m st cnt sh so p0 p1 = some (v, m', st', cnt', sh', so') ∧ LM s' m' ∧ HR t' st' cnt' := by
  have h' := h
  obtain ⟨a, ha, hl, hm, hc⟩ := h
  have hb := ha.b
  obtain ⟨x, hx1, hx2, rfl⟩ := iI_of p0
  obtain ⟨y, hy1, hy2, rfl⟩ := iI_of p1
  obtain ⟨⟨t0, t1, t2, t3, t4, t5⟩, st', cnt', e1, e2, hR⟩ := HR_record hH h'
  have i1 : f_X7_isWithin (iI x) (4 : Int32) (24 : Int32) = some (bI (4 ≤ x ∧ x ≤ 24)) := F_isWithin (x := x) (lo := 4) (hi := 24) ⟨hx1, hx2⟩ (by omega) (by omega)
  have i2 : f_X7_isWithin (iI y) (4 : Int32) (24 : Int32) = some (bI (4 ≤ y ∧ y ≤ 24)) := F_isWithin (x := y) (lo := 4) (hi := 24) ⟨hy1, hy2⟩ (by omega) (by omega)
  have j1 : f_X8_in (iI x) (4 : Int32) (24 : Int32) = some (bI (4 ≤ x ∧ x ≤ 24)) := M_in (x := x) (lo := 4) (hi := 24) ⟨hx1, hx2⟩ (by omega) (by omega)
  have j2 : f_X8_in (iI y) (4 : Int32) (24 : Int32) = some (bI (4 ≤ y ∧ y ≤ 24)) := M_in (x := y) (lo := 4) (hi := 24) ⟨hy1, hy2⟩ (by omega) (by omega)
  unfold f_X7_setPage f_X8_setPage
  rw [i1, j1, ob_some, ob_some, if_b, if_b]
  by_cases hx : 4 ≤ x ∧ x ≤ 24
  · rw [if_pos hx, if_pos hx, i2, j2, ob_some, ob_some, if_b, if_b]
    by_cases hy : 4 ≤ y ∧ y ≤ 24
    · obtain ⟨x', rfl⟩ : ∃ x' : Nat, (x' : Int) = x := ⟨x.toNat, by omega⟩
      obtain ⟨y', rfl⟩ : ∃ y' : Nat, (y' : Int) = y := ⟨y.toNat, by omega⟩
      have hA : AOK ((x', y', aN a), a.2) := ⟨⟨by show 4 ≤ x'; omega, by show x' ≤ 24; omega, by show 4 ≤ y'; omega, by show y' ≤ 24; omega, hb.2.2.2.2⟩, ha.2.1, ha.2.2.1, ha.2.2.2.1, ha.2.2.2.2⟩
      obtain ⟨er, hlr⟩ := L_resize hl x' y'
      have hmr : MOK (upd (upd m 0 (iI (x' : Int))) 1 (iI (y' : Int))) ((x', y', aN a), a.2) := ⟨by rw [upd_ne _ _ (by omega), upd_same]; rfl, by rw [upd_same]; rfl, by rw [upd_ne _ _ (by omega), upd_ne _ _ (by omega)]; exact hm.n, fun p w hp hw => by rw [upd_ne _ _ (by omega), upd_ne _ _ (by omega)]; exact hm.p hp hw, fun l hl => by rw [upd_ne _ _ (by omega), upd_ne _ _ (by omega)]; exact hm.o hl⟩
      obtain ⟨sh', so', e3, k1, k2⟩ := M_paint hmr hA sh so
      obtain ⟨ss', e4, k3⟩ := L_look hlr hA ss
      have s0 : x_st 88 m (0 : Int32) (iI (x' : Int)) = some (upd m 0 (iI (x' : Int))) := x_stI (k := 0) (j := 0) rfl (by omega) (by omega)
      have s1 : x_st 88 (upd m 0 (iI (x' : Int))) (1 : Int32) (iI (y' : Int)) = some (upd (upd m 0 (iI (x' : Int))) 1 (iI (y' : Int))) := x_stI (k := 1) (j := 1) rfl (by omega) (by omega)
      rw [if_pos hy, if_pos hy, e1, e2, ob_some (t0, t1, t2, t3, t4, t5), ob_some (st', cnt')]
      dsimp only
      rw [er, s0, ob_some, ob_some, s1, ob_some, e4, ob_some, S_contentPieces hlr hA k3, ob_some, e3, ob_some]
      dsimp only
      rw [show f_X8_contents (upd (upd m 0 (iI (x' : Int))) 1 (iI (y' : Int))) so' (-109 : Int32) = _ from M_contents' hmr hA k2, ob_some]
      exact ⟨_, _, _, (t0, t1, t2, t3, t4, t5), _, _, _, _, _, rfl, rfl, ⟨_, hA, hlr, hmr, by rw [upd_ne _ _ (by omega), upd_ne _ _ (by omega)]; exact hc⟩, hR⟩
    · rw [if_neg hy, if_neg hy]
      exact ⟨_, _, _, t, _, _, _, _, _, rfl, rfl, h', hH⟩
  · rw [if_neg hx, if_neg hx]
    exact ⟨_, _, _, t, _, _, _, _, _, rfl, rfl, h', hH⟩
/-- a property is set -/
theorem q_prop (h : LM s m) (hH : HR t st cnt) (p0 p1 : Int32) {w : Nat} (hw : w < 6) {wi lo hi : Int} (e : wi = w) (elo : lo = loI w) (ehi : hi = hiI w) (bl : -1000 ≤ lo ∧ lo ≤ 1000 ∧ -1000 ≤ hi ∧ hi ≤ 1000) :
    ∃ v s' t' m' st' cnt', f_X7_setProperty s t.1 t.2.1 t.2.2.1 t.2.2.2.1 t.2.2.2.2.1 t.2.2.2.2.2 p0 (iI wi) p1 = some (v, s', t') ∧ ((f_X8_isPiece m p0).bind fun r1 => if r1 = 0 then some ((-101 : Int32), m, st, cnt) else (f_X8_in p1 (iI lo) (iI hi)).bind fun r3 => if r3 = 0 then some ((-101 : Int32), m, st, cnt) else (f_X8_put m st cnt (((4 : Int32) + ((6 : Int32) * p0)) + (iI wi)) p1).bind fun (r5, s6, s7, s8) => some (r5, s6, s7, s8)) = some (v, m', st', cnt') ∧ LM s' m' ∧ HR t' st' cnt' := by
  have h' := h
  obtain ⟨a, ha, hl, hm, hc⟩ := h
  have hb := ha.b
  obtain ⟨x, hx1, hx2, rfl⟩ := iI_of p0
  obtain ⟨y, hy1, hy2, rfl⟩ := iI_of p1
  obtain ⟨⟨t0, t1, t2, t3, t4, t5⟩, st', cnt', e1, e2, hR⟩ := HR_record hH h'
  unfold f_X7_setProperty f_X8_put
  rw [L_has hl (by omega) ⟨hx1, hx2⟩, M_isPiece hm (by omega) ⟨hx1, hx2⟩, ob_some, ob_some, if_b, if_b]
  by_cases hx : 0 ≤ x ∧ x < aN a
  · rw [if_pos hx, if_pos hx, F_fits hw e ⟨hy1, hy2⟩, M_in ⟨hy1, hy2⟩ (by omega) (by omega), ob_some, ob_some, if_b, if_b]
    by_cases hy : lo ≤ y ∧ y ≤ hi
    · obtain ⟨x', rfl⟩ : ∃ x' : Nat, (x' : Int) = x := ⟨x.toNat, by omega⟩
      have hp : x' < aN a := by omega
      obtain ⟨s', e3, k1, k2⟩ := L_set hl (by omega) hp hw (v := y) e
      have hy' : loI w ≤ y ∧ y ≤ hiI w := by rw [← elo, ← ehi]; exact hy
      rw [if_pos hy', if_pos hy, e1, e2, ob_some (t0, t1, t2, t3, t4, t5), ob_some (st', cnt')]
      dsimp only
      have ew : (4 : Int32) + (6 : Int32) * iI (x' : Int) + iI wi = iI ((4 + 6 * x' + w : Nat) : Int) := by
        rw [iL_4, iL_6, iI_mul, iI_add, iI_add, e]
        congr 1
      rw [L_get hl (by omega) hp hw e, ob_some, e3, ob_some, ew, x_ldI (j := 4 + 6 * x' + w) rfl (by omega) (by omega), ob_some, hm.p hp hw, x_stI (j := 4 + 6 * x' + w) rfl (by omega) (by omega), ob_some, ob_some]
      exact ⟨_, _, (t0, t1, t2, t3, t4, t5), _, _, _, rfl, rfl, ⟨_, aSet_AOK ha hw hy', k1, hm.set (by omega) hw y, (k2.trans hc).trans (upd_ne (k := 4 + 6 * x' + w) m (iI y) (show 3 ≠ 4 + 6 * x' + w by omega)).symm⟩, hR⟩
    · have hy' : ¬ (loI w ≤ y ∧ y ≤ hiI w) := by rw [← elo, ← ehi]; exact hy
      rw [if_neg hy', if_neg hy]
      exact ⟨_, _, t, _, _, _, rfl, rfl, h', hH⟩
  · rw [if_neg hx, if_neg hx]
    exact ⟨_, _, t, _, _, _, rfl, rfl, h', hH⟩
theorem q_setShare (h : LM s m) (hH : HR t st cnt) (p0 p1 : Int32) : ∃ v s' t' m' st' cnt', f_X7_setShare s t.1 t.2.1 t.2.2.1 t.2.2.2.1 t.2.2.2.2.1 t.2.2.2.2.2 p0 p1 = some (v, s', t') ∧ f_X8_setShare m st cnt p0 p1 = some (v, m', st', cnt') ∧ LM s' m' ∧ HR t' st' cnt' := by
  obtain ⟨v, s', ⟨t0, t1, t2, t3, t4, t5⟩, m', st', cnt', e1, e2, e3, e4⟩ := q_prop h hH p0 p1 (w := 4) (wi := 4) (lo := 0) (hi := 100) (by omega) rfl rfl rfl (by omega)
  refine ⟨v, s', (t0, t1, t2, t3, t4, t5), m', st', cnt', ?_, e2, e3, e4⟩
  unfold f_X7_setShare
  rw [show f_X7_setProperty s t.1 t.2.1 t.2.2.1 t.2.2.2.1 t.2.2.2.2.1 t.2.2.2.2.2 p0 (4 : Int32) p1 = _ from e1, ob_some]
theorem q_setFrame (h : LM s m) (hH : HR t st cnt) (p0 p1 : Int32) : ∃ v s' t' m' st' cnt', f_X7_setFrame s t.1 t.2.1 t.2.2.1 t.2.2.2.1 t.2.2.2.2.1 t.2.2.2.2.2 p0 p1 = some (v, s', t') ∧ f_X8_setFrame m st cnt p0 p1 = some (v, m', st', cnt') ∧ LM s' m' ∧ HR t' st' cnt' := by
  obtain ⟨v, s', ⟨t0, t1, t2, t3, t4, t5⟩, m', st', cnt', e1, e2, e3, e4⟩ := q_prop h hH p0 p1 (w := 5) (wi := 5) (lo := 0) (hi := 3) (by omega) rfl rfl rfl (by omega)
  refine ⟨v, s', (t0, t1, t2, t3, t4, t5), m', st', cnt', ?_, e2, e3, e4⟩
  unfold f_X7_setFrame
  rw [show f_X7_setProperty s t.1 t.2.1 t.2.2.1 t.2.2.2.1 t.2.2.2.2.1 t.2.2.2.2.2 p0 (5 : Int32) p1 = _ from e1, ob_some]
theorem q_shift (h : LM s m) (hH : HR t st cnt) (p0 p1 p2 : Int32) : ∃ v s' t' m' st' cnt', f_X7_shift s t.1 t.2.1 t.2.2.1 t.2.2.2.1 t.2.2.2.2.1 t.2.2.2.2.2 p0 p1 p2 = some (v, s', t') ∧ f_X8_shift m st cnt p0 p1 p2 = some (v, m', st', cnt') ∧ LM s' m' ∧ HR t' st' cnt' := by
  have h' := h
  obtain ⟨a, ha, hl, hm, hc⟩ := h
  have hb := ha.b
  obtain ⟨x, hx1, hx2, rfl⟩ := iI_of p0
  obtain ⟨dx, hy1, hy2, rfl⟩ := iI_of p1
  obtain ⟨dy, hz1, hz2, rfl⟩ := iI_of p2
  obtain ⟨⟨t0, t1, t2, t3, t4, t5⟩, st', cnt', e1, e2, hR⟩ := HR_record hH h'
  have i1 : f_X7_isWithin (iI dx) (-60 : Int32) (60 : Int32) = some (bI (-60 ≤ dx ∧ dx ≤ 60)) := by
    rw [show (-60 : Int32) = iI (-60) from rfl, iL_60]
    exact F_isWithin (x := dx) (lo := -60) (hi := 60) ⟨hy1, hy2⟩ (by omega) (by omega)
  have i2 : f_X7_isWithin (iI dy) (-60 : Int32) (60 : Int32) = some (bI (-60 ≤ dy ∧ dy ≤ 60)) := by
    rw [show (-60 : Int32) = iI (-60) from rfl, iL_60]
    exact F_isWithin (x := dy) (lo := -60) (hi := 60) ⟨hz1, hz2⟩ (by omega) (by omega)
  have j1 : f_X8_in (iI dx) (-60 : Int32) (60 : Int32) = some (bI (-60 ≤ dx ∧ dx ≤ 60)) := by
    rw [show (-60 : Int32) = iI (-60) from rfl, iL_60]
    exact M_in (x := dx) (lo := -60) (hi := 60) ⟨hy1, hy2⟩ (by omega) (by omega)
  have j2 : f_X8_in (iI dy) (-60 : Int32) (60 : Int32) = some (bI (-60 ≤ dy ∧ dy ≤ 60)) := by
    rw [show (-60 : Int32) = iI (-60) from rfl, iL_60]
    exact M_in (x := dy) (lo := -60) (hi := 60) ⟨hz1, hz2⟩ (by omega) (by omega)
  unfold f_X7_shift f_X8_shift
  rw [L_has hl (by omega) ⟨hx1, hx2⟩, M_isPiece hm (by omega) ⟨hx1, hx2⟩, ob_some, ob_some, if_b, if_b]
  by_cases hx : 0 ≤ x ∧ x < aN a
  · rw [if_pos hx, if_pos hx, i1, j1, ob_some, ob_some, if_b, if_b]
    by_cases hy : -60 ≤ dx ∧ dx ≤ 60
    · rw [if_pos hy, if_pos hy, i2, j2, ob_some, ob_some, if_b, if_b]
      by_cases hz : -60 ≤ dy ∧ dy ≤ 60
      · obtain ⟨x', rfl⟩ : ∃ x' : Nat, (x' : Int) = x := ⟨x.toNat, by omega⟩
        have hp : x' < aN a := by omega
        rw [if_pos hz, if_pos hz, L_canMove hl ha hp (by omega) (by omega), M_isPossible hm ha hp (by omega) (by omega), ob_some, ob_some, if_b, if_b]
        by_cases hcm : (-20 ≤ aP a x' 0 + dx ∧ aP a x' 0 + dx ≤ 40) ∧ -20 ≤ aP a x' 1 + dy ∧ aP a x' 1 + dy ≤ 40
        · obtain ⟨s', e3, k1, k2⟩ := L_move hl ha hp (dx := dx) (dy := dy) (by omega) (by omega)
          have hms := M_shifts_ok hm (by omega) hp dx dy
          obtain ⟨m1, hm1⟩ : ∃ m1, m1 = (upd (upd m (4 + 6 * x' + 0) (iI (aP a x' 0 + dx))) (4 + 6 * x' + 1) (iI (aP a x' 1 + dy))) := ⟨_, rfl⟩
          have e4 := M_shifts hm (by omega) hp dx dy
          rw [← hm1] at e4 hms
          have e5 : x_ld 88 m1 (3 : Int32) = some (m 3) := by
            refine (x_ldI (k := 3) (j := 3) rfl (by omega) (by omega)).trans ?_
            rw [hm1, upd_ne _ _ (by omega), upd_ne _ _ (by omega)]
          have e6 : ∀ v, x_st 88 m1 (3 : Int32) v = some (upd m1 3 v) := fun v => x_stI (k := 3) (j := 3) rfl (by omega) (by omega)
          rw [if_pos hcm, if_pos hcm, e1, e2, ob_some (t0, t1, t2, t3, t4, t5), ob_some (st', cnt')]
          dsimp only
          rw [e3, e4, ob_some m1, ob_some (iI (ab dx + ab dy), s')]
          dsimp only
          rw [e5, ob_some, M_size (by omega), M_size (by omega), ob_some, ob_some, iI_add, e6, ob_some, ob_some, ob_some]
          rw [iI_add]
          exact ⟨_, _, (t0, t1, t2, t3, t4, t5), _, _, _, rfl, rfl, ⟨_, aSh_AOK ha hcm, k1, ⟨(upd_ne _ _ (by omega)).trans hms.1, (upd_ne _ _ (by omega)).trans hms.2.1, (upd_ne _ _ (by omega)).trans hms.2.2.1, fun p w hp hw => (upd_ne _ _ (by omega)).trans (hms.p hp hw), fun l hl => (upd_ne _ _ (by omega)).trans (hms.o hl)⟩, by rw [k2, upd_same, hc]⟩, hR⟩
        · rw [if_neg hcm, if_neg hcm]
          exact ⟨_, _, t, _, _, _, rfl, rfl, h', hH⟩
      · rw [if_neg hz, if_neg hz]
        exact ⟨_, _, t, _, _, _, rfl, rfl, h', hH⟩
    · rw [if_neg hy, if_neg hy]
      exact ⟨_, _, t, _, _, _, rfl, rfl, h', hH⟩
  · rw [if_neg hx, if_neg hx]
    exact ⟨_, _, t, _, _, _, rfl, rfl, h', hH⟩
theorem q_setLayer (h : LM s m) (hH : HR t st cnt) (p0 p1 : Int32) : ∃ v s' t' m' st' cnt', f_X7_setLayer s t.1 t.2.1 t.2.2.1 t.2.2.2.1 t.2.2.2.2.1 t.2.2.2.2.2 p0 p1 = some (v, s', t') ∧ f_X8_setLayer m st cnt p0 p1 = some (v, m', st', cnt') ∧ LM s' m' ∧ HR t' st' cnt' := by
  have h' := h
  obtain ⟨a, ha, hl, hm, hc⟩ := h
  have hb := ha.b
  obtain ⟨x, hx1, hx2, rfl⟩ := iI_of p0
  obtain ⟨y, hy1, hy2, rfl⟩ := iI_of p1
  obtain ⟨⟨t0, t1, t2, t3, t4, t5⟩, st', cnt', e1, e2, hR⟩ := HR_record hH h'
  unfold f_X7_setLayer f_X8_setLayer
  rw [L_has hl (by omega) ⟨hx1, hx2⟩, M_isPiece hm (by omega) ⟨hx1, hx2⟩, ob_some, ob_some, if_b, if_b]
  by_cases hx : 0 ≤ x ∧ x < aN a
  · rw [if_pos hx, if_pos hx, L_has hl (by omega) ⟨hy1, hy2⟩, M_isPiece hm (by omega) ⟨hy1, hy2⟩, ob_some, ob_some, if_b, if_b]
    by_cases hy : 0 ≤ y ∧ y < aN a
    · obtain ⟨x', rfl⟩ : ∃ x' : Nat, (x' : Int) = x := ⟨x.toNat, by omega⟩
      obtain ⟨y', rfl⟩ : ∃ y' : Nat, (y' : Int) = y := ⟨y.toNat, by omega⟩
      obtain ⟨l0, hl0, rfl⟩ := ha.sur (show x' < aN a by omega)
      obtain ⟨s', e3, k1, k2, k3⟩ := L_putIntoLayer hl ha hl0 (l1 := y') (by omega)
      obtain ⟨m', e4, k4, k5⟩ := M_lays hm ha hl0 (l1 := y') (by omega)
      rw [if_pos hy, if_pos hy, e1, e2, ob_some (t0, t1, t2, t3, t4, t5), ob_some (st', cnt')]
      dsimp only
      rw [e3, e4, ob_some (iI (l0 : Int), s'), ob_some (iI (l0 : Int), m')]
      exact ⟨_, _, (t0, t1, t2, t3, t4, t5), _, _, _, rfl, rfl, ⟨_, aMov_AOK ha hl0 (by omega), k1, k4, (k2.trans hc).trans (k5 3 (by omega)).symm⟩, hR⟩
    · rw [if_neg hy, if_neg hy]
      exact ⟨_, _, t, _, _, _, rfl, rfl, h', hH⟩
  · rw [if_neg hx, if_neg hx]
    exact ⟨_, _, t, _, _, _, rfl, rfl, h', hH⟩
theorem q_undo (h : LM s m) (hH : HR t st cnt) : ∃ v s' t0 m' cnt', f_X7_undo s t.1 t.2.1 t.2.2.1 t.2.2.2.1 t.2.2.2.2.1 t.2.2.2.2.2 = some (v, s', t0) ∧ f_X8_undo m st cnt = some (v, m', cnt') ∧ LM s' m' ∧ HR (t0, t.2) st cnt' := by
  unfold f_X7_undo f_X8_undo f_X0_size
  rw [ob_some]
  rcases HR_restore hH s m with ⟨c1, c2⟩ | ⟨c1, c2, t1, s', m', e1, ⟨z, e2⟩, e3, e4, e5⟩
  · rw [if_pos c1, if_pos c2]
    exact ⟨_, _, _, _, _, rfl, rfl, h, hH⟩
  · rw [if_neg c1, if_neg c2, e1, ob_some]
    dsimp only
    rw [ob_some, x_nm_eq, e2, ob_some, e4]
    exact ⟨_, _, _, _, _, rfl, rfl, e3, e5⟩
end QC
