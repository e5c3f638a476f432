/-! a piece comes, a piece goes, on both sides -/
section QD
variable {s : LyS} {m : Nat → Int32} {t : HT} {st : Nat → Int32} {cnt : Int32}
theorem M_remove {a : AL} (h : MOK m a) (ha : AOK a) {l0 : Nat} (h0 : l0 < aN a) : ∃ m1 m2 z1 z2, x_st 88 m (2 : Int32) (iI (aN a : Int) - 1) = some (upd m 2 (iI ((aN a - 1 : Nat) : Int))) ∧ x_loop b_X8_removePiece_40 x_fuel ((6 : Int32) * iI (aO a l0 : Int), upd m 2 (iI ((aN a - 1 : Nat) : Int))) = some (z1, m1) ∧ x_loop (b_X8_removePiece_80 (iI (aO a l0 : Int)) (iI (l0 : Int))) x_fuel ((0 : Int32), m1) = some (z2, m2) ∧ MOK m2 (aRem a l0) ∧ m2 3 = m 3 := by
  have hb := ha.b
  have hp := ha.o h0
  obtain ⟨p, hpp⟩ : ∃ p, p = aO a l0 := ⟨_, rfl⟩
  obtain ⟨M, hM⟩ : ∃ M, M = upd m 2 (iI ((aN a - 1 : Nat) : Int)) := ⟨_, rfl⟩
  have eN : iI (aN a : Int) - 1 = iI ((aN a - 1 : Nat) : Int) := by
    rw [iL_1, iI_sub]
    congr 1
    omega
  have k1 := x_for (B := b_X8_removePiece_40) (fun i (g : Nat → Int32) => (iI (6 * p + i : Int), g)) (fun i g => ∀ k, g k = if 4 + 6 * p ≤ k ∧ k < 4 + 6 * p + i then M (k + 6) else M k) (6 * (aN a - 1) - 6 * p) (fun r => ∃ z g, r = (z, g) ∧ ∀ k, g k = if 4 + 6 * p ≤ k ∧ k < 4 + 6 * (aN a - 1) then M (k + 6) else M k)
    (by
      intro i g hi hI
      left
      have g2 : g 2 = iI ((aN a - 1 : Nat) : Int) := by rw [hI, if_neg (by omega), hM, upd_same]
      have gs : g (4 + 6 * p + i + 6) = M (4 + 6 * p + i + 6) := by rw [hI, if_neg (by omega)]
      refine ⟨upd g (4 + 6 * p + i) (M (4 + 6 * p + i + 6)), ?_, fun k => ?_⟩
      · rw [b_X8_removePiece_40, show x_ld 88 g (2 : Int32) = _ from x_ldI (k := 2) (j := 2) rfl (by omega) (by omega), g2, ob_some, iL_6, iL_4, iI_mul, iI_add, iI_add, x_ldI (j := 4 + 6 * p + i + 6) (by push_cast; omega) (by omega) (by omega), ob_some, gs, x_stI (j := 4 + 6 * p + i) (by push_cast; omega) (by omega) (by omega), ob_some, iL_1, iI_add]
        simp (disch := omega) only [iI_le]
        rw [if_neg (by omega)]
        congr 3
      · by_cases c : k = 4 + 6 * p + i
        · subst c; rw [upd_same, if_pos (by omega)]
        · rw [upd_ne _ _ c, hI k]
          by_cases c2 : 4 + 6 * p ≤ k ∧ k < 4 + 6 * p + i
          · rw [if_pos c2, if_pos (by omega)]
          · rw [if_neg c2, if_neg (by omega)])
    (by
      intro g hI
      have g2 : g 2 = iI ((aN a - 1 : Nat) : Int) := by rw [hI, if_neg (by omega), hM, upd_same]
      rw [b_X8_removePiece_40, show x_ld 88 g (2 : Int32) = _ from x_ldI (k := 2) (j := 2) rfl (by omega) (by omega), g2, ob_some, iL_6, iI_mul]
      simp (disch := omega) only [iI_le]
      rw [if_pos (by omega)]
      refine ⟨_, rfl, _, g, rfl, fun k => ?_⟩
      rw [hI k]
      by_cases c2 : 4 + 6 * p ≤ k ∧ k < 4 + 6 * p + (6 * (aN a - 1) - 6 * p)
      · rw [if_pos c2, if_pos (by omega)]
      · rw [if_neg c2, if_neg (by omega)])
    M (fun k => by rw [if_neg (by omega)]) (by omega)
  obtain ⟨r1, e1, z1, g1, rfl, hg1⟩ := k1
  have ordg : ∀ l, l < aN a → g1 (76 + l) = iI (aO a l : Int) := fun l hl => by rw [hg1, if_neg (by omega), hM, upd_ne _ _ (by omega), h.o hl]
  have k2 := x_for (B := b_X8_removePiece_80 (iI (p : Int)) (iI (l0 : Int))) (fun i (g : Nat → Int32) => (iI (i : Int), g)) (fun i g => (∀ k, k < 76 → g k = g1 k) ∧ ∀ l, l < aN a → g (76 + l) = if l < i then iI (dec p (aO a (if l < l0 then l else l + 1)) : Int) else iI (aO a l : Int)) (aN a - 1) (fun r => ∃ z g, r = (z, g) ∧ (∀ k, k < 76 → g k = g1 k) ∧ ∀ l, l < aN a - 1 → g (76 + l) = iI (dec p (aO a (if l < l0 then l else l + 1)) : Int))
    (by
      rintro i g hi ⟨hI, hJ⟩
      left
      have g2 : g 2 = iI ((aN a - 1 : Nat) : Int) := by rw [hI 2 (by omega), hg1, if_neg (by omega), hM, upd_same]
      obtain ⟨j, hj⟩ : ∃ j, j = if i < l0 then i else i + 1 := ⟨_, rfl⟩
      have hjb : i ≤ j ∧ j < aN a := by rw [hj]; split <;> omega
      have hoj := ha.o hjb.2
      have gj : g (76 + j) = iI (aO a j : Int) := by rw [hJ j hjb.2, if_neg (by omega)]
      have ej : (if iI (l0 : Int) ≤ iI (i : Int) then some (iI (i : Int) + 1) else some (iI (i : Int))) = some (iI (j : Int)) := by
        simp (disch := omega) only [iI_le]
        rw [hj]
        by_cases c : i < l0
        · rw [if_neg (by omega), if_pos c]
        · rw [if_pos (by omega), if_neg c, iI_suc]
      refine ⟨upd g (76 + i) (iI (dec p (aO a (if i < l0 then i else i + 1)) : Int)), ?_, fun k hk => by rw [upd_ne _ _ (by omega)]; exact hI k hk, fun l hl => ?_⟩
      · rw [b_X8_removePiece_80, show x_ld 88 g (2 : Int32) = _ from x_ldI (k := 2) (j := 2) rfl (by omega) (by omega), g2, ob_some, ej, ob_some, iL_76, iI_add, x_ldI (j := 76 + j) (by push_cast; omega) (by omega) (by omega), gj, ob_some, ← hj, iI_add]
        simp (disch := omega) only [iI_le]
        rw [if_neg (by omega), iI_suc]
        unfold dec
        by_cases c : p < aO a j
        · rw [if_neg (by omega), if_pos c, iL_1, iI_sub, x_stI (j := 76 + i) (by push_cast; omega) (by omega) (by omega), ob_some]
          congr 4
          congr 1
          omega
        · rw [if_pos (by omega), if_neg c, x_stI (j := 76 + i) (by push_cast; omega) (by omega) (by omega), ob_some]
      · by_cases c : l = i
        · subst c; rw [upd_same, if_pos (show l < l + 1 by omega)]
        · rw [upd_ne _ _ (by omega), hJ l hl]
          by_cases c2 : l < i
          · rw [if_pos c2, if_pos (show l < i + 1 by omega)]
          · rw [if_neg c2, if_neg (show ¬ l < i + 1 by omega)])
    (by
      rintro g ⟨hI, hJ⟩
      have g2 : g 2 = iI ((aN a - 1 : Nat) : Int) := by rw [hI 2 (by omega), hg1, if_neg (by omega), hM, upd_same]
      rw [b_X8_removePiece_80, show x_ld 88 g (2 : Int32) = _ from x_ldI (k := 2) (j := 2) rfl (by omega) (by omega), g2, ob_some]
      simp (disch := omega) only [iI_le]
      rw [if_pos (by omega)]
      exact ⟨_, rfl, _, g, rfl, hI, fun l hl => by rw [hJ l (by omega), if_pos hl]⟩)
    g1 ⟨fun _ _ => rfl, fun l hl => by rw [if_neg (by omega)]; exact ordg l hl⟩ (by omega)
  obtain ⟨r2, e2, z2, g2, rfl, hg2, hg3⟩ := k2
  refine ⟨g1, g2, z1, z2, ?_, ?_, ?_, ⟨?_, ?_, ?_, fun q u hq hu => ?_, fun l hl => ?_⟩, ?_⟩
  · rw [eN]
    exact x_stI (k := 2) (j := 2) rfl (by omega) (by omega)
  · rw [← hM, ← hpp, iL_6, iI_mul, ← e1]
    congr 2 <;> (congr 1; omega)
  · rw [← hpp]
    exact e2
  · rw [hg2 0 (by omega), hg1, if_neg (by omega), hM, upd_ne _ _ (by omega)]; exact h.c
  · rw [hg2 1 (by omega), hg1, if_neg (by omega), hM, upd_ne _ _ (by omega)]; exact h.r
  · rw [hg2 2 (by omega), hg1, if_neg (by omega), hM, upd_same]; rfl
  · have hq : q < aN a - 1 := hq
    show g2 (4 + 6 * q + u) = iI (if q < aO a l0 then aP a q u else aP a (q + 1) u)
    rw [hg2 _ (by omega), hg1, ← hpp]
    by_cases c : q < p
    · rw [if_neg (by omega), if_pos c, hM, upd_ne _ _ (by omega)]
      exact h.p (by omega) hu
    · rw [if_pos (by omega), if_neg c, hM, upd_ne _ _ (by omega), show 4 + 6 * q + u + 6 = 4 + 6 * (q + 1) + u by omega]
      exact h.p (by omega) hu
  · have hl : l < aN a - 1 := hl
    show g2 (76 + l) = iI (dec (aO a l0) (aO a (if l < l0 then l else l + 1)) : Int)
    rw [hg3 l hl, hpp]
  · rw [hg2 3 (by omega), hg1, if_neg (by omega), hM, upd_ne _ _ (by omega)]
theorem q_removePiece (h : LM s m) (hH : HR t st cnt) (p0 : Int32) : ∃ v s' t' m' st' cnt', f_X7_removePiece s t.1 t.2.1 t.2.2.1 t.2.2.2.1 t.2.2.2.2.1 t.2.2.2.2.2 p0 = some (v, s', t') ∧ f_X8_removePiece m st cnt p0 = some (v, m', st', cnt') ∧ LM s' m' ∧ HR t' st' cnt' := by
  have h' := h
  obtain ⟨a, ha, hl, hm, hc⟩ := h
  have hb := ha.b
  obtain ⟨x, hx1, hx2, rfl⟩ := iI_of p0
  obtain ⟨⟨t0, t1, t2, t3, t4, t5⟩, st', cnt', e1, e2, hR⟩ := HR_record hH h'
  unfold f_X7_removePiece f_X8_removePiece
  rw [L_has hl (by omega) ⟨hx1, hx2⟩, M_isPiece hm (by omega) ⟨hx1, hx2⟩, ob_some, ob_some, if_b, if_b]
  by_cases hx : 0 ≤ x ∧ x < aN a
  · obtain ⟨x', rfl⟩ : ∃ x' : Nat, (x' : Int) = x := ⟨x.toNat, by omega⟩
    obtain ⟨l0, hl0, rfl⟩ := ha.sur (show x' < aN a by omega)
    obtain ⟨s', e3, k1, k2⟩ := L_remove hl ha hl0
    obtain ⟨m1, m2, z1, z2, f1, f2, f3, k3, k4⟩ := M_remove hm ha hl0
    rw [if_pos hx, if_pos hx, e1, e2, ob_some (t0, t1, t2, t3, t4, t5), ob_some (st', cnt')]
    dsimp only
    unfold f_X1_pieces
    rw [e3, ob_some s', ob_some, k1.n, M_layerOf hm ha hl0, ob_some (iI (l0 : Int)), show x_ld 88 m (2 : Int32) = _ from M_ld2 hm, ob_some (iI (aN a : Int)), f1, ob_some (upd m 2 (iI ((aN a - 1 : Nat) : Int))), x_nm_eq, f2, ob_some (z1, m1)]
    dsimp only
    rw [f3, ob_some (z2, m2)]
    dsimp only
    rw [show x_ld 88 m2 (2 : Int32) = _ from M_ld2 k3]
    exact ⟨_, _, (t0, t1, t2, t3, t4, t5), _, _, _, rfl, rfl, ⟨_, aRem_AOK ha hl0, k1, k3, (k2.trans hc).trans k4.symm⟩, hR⟩
  · rw [if_neg hx, if_neg hx]
    exact ⟨_, _, t, _, _, _, rfl, rfl, h', hH⟩
theorem q_addPiece (h : LM s m) (hH : HR t st cnt) (p0 p1 p2 p3 p4 : Int32) : ∃ v s' t' m' st' cnt', f_X7_addPiece s t.1 t.2.1 t.2.2.1 t.2.2.2.1 t.2.2.2.2.1 t.2.2.2.2.2 p0 p1 p2 p3 p4 = some (v, s', t') ∧ f_X8_addPiece m st cnt p0 p1 p2 p3 p4 = some (v, m', st', cnt') ∧ LM s' m' ∧ HR t' st' cnt' := by
  have h' := h
  obtain ⟨a, ha, hl, hm, hc⟩ := h
  have hb := ha.b
  obtain ⟨x, hx1, hx2, rfl⟩ := iI_of p0
  obtain ⟨y, hy1, hy2, rfl⟩ := iI_of p1
  obtain ⟨w, hw1, hw2, rfl⟩ := iI_of p2
  obtain ⟨u, hu1, hu2, rfl⟩ := iI_of p3
  obtain ⟨q, hq1, hq2, rfl⟩ := iI_of p4
  obtain ⟨⟨t0, t1, t2, t3, t4, t5⟩, st', cnt', e1, e2, hR⟩ := HR_record hH h'
  unfold f_X7_addPiece f_X8_addPiece
  rw [show f_X7_fits (0 : Int32) (iI x) = _ from F_fits0 ⟨hx1, hx2⟩, M_isPlace ⟨hx1, hx2⟩, ob_some, ob_some, if_b, if_b]
  by_cases hx : -20 ≤ x ∧ x ≤ 40
  · rw [if_pos hx, if_pos hx, show f_X7_fits (1 : Int32) (iI y) = _ from F_fits1 ⟨hy1, hy2⟩, M_isPlace ⟨hy1, hy2⟩, ob_some, ob_some, if_b, if_b]
    by_cases hy : -20 ≤ y ∧ y ≤ 40
    · rw [if_pos hy, if_pos hy, show f_X7_fits (2 : Int32) (iI w) = _ from F_fits2 ⟨hw1, hw2⟩, M_isSize ⟨hw1, hw2⟩, ob_some, ob_some, if_b, if_b]
      by_cases hw : 1 ≤ w ∧ w ≤ 12
      · rw [if_pos hw, if_pos hw, show f_X7_fits (3 : Int32) (iI u) = _ from F_fits3 ⟨hu1, hu2⟩, M_isSize ⟨hu1, hu2⟩, ob_some, ob_some, if_b, if_b]
        by_cases hu : 1 ≤ u ∧ u ≤ 12
        · rw [if_pos hu, if_pos hu, show f_X7_fits (4 : Int32) (iI q) = _ from F_fits4 ⟨hq1, hq2⟩, show f_X8_in (iI q) (0 : Int32) (100 : Int32) = _ from M_in (x := q) (lo := 0) (hi := 100) ⟨hq1, hq2⟩ (by omega) (by omega), ob_some, ob_some, if_b, if_b]
          by_cases hq : 0 ≤ q ∧ q ≤ 100
          · rw [if_pos hq, if_pos hq, L_isFull hl (by omega), show x_ld 88 m (2 : Int32) = _ from M_ld2 hm, ob_some, ob_some, if_b]
            by_cases hn : aN a = 12
            · rw [if_pos hn, hn, if_pos (show iI ((12 : Nat) : Int) = (12 : Int32) from rfl)]
              exact ⟨_, _, t, _, _, _, rfl, rfl, h', hH⟩
            · have hn' : ¬ iI (aN a : Int) = (12 : Int32) := fun z => hn (by have := (iI_eq (by omega) (by omega) (by omega) (by omega)).mp (show iI (aN a : Int) = iI 12 from z); omega)
              obtain ⟨v, hv⟩ : ∃ v : Nat → Int, v = fun k => if k = 0 then x else if k = 1 then y else if k = 2 then w else if k = 3 then u else if k = 4 then q else 0 := ⟨_, rfl⟩
              have v0 : v 0 = x := by rw [hv]; rfl
              have v1 : v 1 = y := by rw [hv]; rfl
              have v2 : v 2 = w := by rw [hv]; rfl
              have v3 : v 3 = u := by rw [hv]; rfl
              have v4 : v 4 = q := by rw [hv]; rfl
              have v5 : v 5 = 0 := by rw [hv]; rfl
              have hPV : PV v := by unfold PV; rw [v0, v1, v2, v3, v4, v5]; omega
              obtain ⟨m', g1, g2, g3⟩ := M_adds hm (by omega) v
              rw [v0, v1, v2, v3, v4, v5] at g1
              obtain ⟨sa, f0, ka, ca⟩ := L_addBlank hl (show aN a < 12 by omega)
              have hN1 : aN (aAdd a (fun _ => 0)) = aN a + 1 := rfl
              obtain ⟨sb, f1, kb, cb⟩ := L_set ka (by omega) (p := aN a) (w := 0) (by omega) (by omega) (wi := 0) (v := x) rfl
              obtain ⟨sc, f2, kc, cc⟩ := L_set kb (show aN a + 1 ≤ 12 by omega) (p := aN a) (w := 1) (show aN a < aN a + 1 by omega) (by omega) (wi := 1) (v := y) rfl
              obtain ⟨sd, f3, kd, cd⟩ := L_set kc (show aN a + 1 ≤ 12 by omega) (p := aN a) (w := 2) (show aN a < aN a + 1 by omega) (by omega) (wi := 2) (v := w) rfl
              obtain ⟨se, f4, ke, ce⟩ := L_set kd (show aN a + 1 ≤ 12 by omega) (p := aN a) (w := 3) (show aN a < aN a + 1 by omega) (by omega) (wi := 3) (v := u) rfl
              obtain ⟨sf, f5, kf, cf⟩ := L_set ke (show aN a + 1 ≤ 12 by omega) (p := aN a) (w := 4) (show aN a < aN a + 1 by omega) (by omega) (wi := 4) (v := q) rfl
              have kk : LOK sf (aAdd a v) := by
                refine kf.congr rfl (fun i j hi hj => ?_) (fun l hl => rfl)
                simp only [aSet_P]
                show _ = (if i = aN a then v j else aP a i j)
                by_cases c : i = aN a
                · subst c
                  rw [if_pos rfl]
                  rcases (show j = 0 ∨ j = 1 ∨ j = 2 ∨ j = 3 ∨ j = 4 ∨ j = 5 by omega) with rfl | rfl | rfl | rfl | rfl | rfl
                  · rw [v0]; simp
                  · rw [v1]; simp
                  · rw [v2]; simp
                  · rw [v3]; simp
                  · rw [v4]; simp
                  · rw [v5]
                    simp
                    show (if aN a = aN a then (0 : Int) else _) = 0
                    rw [if_pos rfl]
                · simp only [c, false_and, if_false]
                  show (if i = aN a then (0 : Int) else aP a i j) = aP a i j
                  rw [if_neg c]
              rw [if_neg hn, if_neg hn', e1, e2, ob_some (t0, t1, t2, t3, t4, t5), ob_some (st', cnt')]
              dsimp only
              rw [f0, ob_some (iI (aN a : Int), sa)]
              dsimp only
              rw [show f_X1_set sa (iI (aN a : Int)) (0 : Int32) (iI x) = _ from f1, ob_some sb, show f_X1_set sb (iI (aN a : Int)) (1 : Int32) (iI y) = _ from f2, ob_some sc, show f_X1_set sc (iI (aN a : Int)) (2 : Int32) (iI w) = _ from f3, ob_some sd, show f_X1_set sd (iI (aN a : Int)) (3 : Int32) (iI u) = _ from f4, ob_some se, show f_X1_set se (iI (aN a : Int)) (4 : Int32) (iI q) = _ from f5, ob_some sf, show f_X8_adds m (iI x) (iI y) (iI w) (iI u) (iI q) (0 : Int32) = _ from g1, ob_some m', show x_ld 88 m' (2 : Int32) = _ from M_ld2 g2, ob_some, show iI ((aN (aAdd a v) : Nat) : Int) - 1 = iI (aN a : Int) by
                rw [iL_1, iI_sub]
                congr 1
                show ((aN a + 1 : Nat) : Int) - 1 = _
                omega]
              refine ⟨_, _, (t0, t1, t2, t3, t4, t5), _, _, _, rfl, rfl, ⟨_, aAdd_AOK ha (by omega) hPV, kk, g2, ?_⟩, hR⟩
              rw [cf, ce, cd, cc, cb, ca, hc, ← g3]
          · rw [if_neg hq, if_neg hq]
            exact ⟨_, _, t, _, _, _, rfl, rfl, h', hH⟩
        · rw [if_neg hu, if_neg hu]
          exact ⟨_, _, t, _, _, _, rfl, rfl, h', hH⟩
      · rw [if_neg hw, if_neg hw]
        exact ⟨_, _, t, _, _, _, rfl, rfl, h', hH⟩
    · rw [if_neg hy, if_neg hy]
      exact ⟨_, _, t, _, _, _, rfl, rfl, h', hH⟩
  · rw [if_neg hx, if_neg hx]
    exact ⟨_, _, t, _, _, _, rfl, rfl, h', hH⟩
end QD
