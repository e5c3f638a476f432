/-! p26: what the plans answer -/
section ZC
variable {s : LyS} {a : AL}
def lsv (a : AL) (p : Nat) (aim w : Int) : Int := match sC (rchN a p (need a aim)) 9 with
  | none => -109
  | some (x, y) => if w = 0 then ab x + ab y else if w = 1 then x else y
theorem z_least (hl : LOK s a) (ha : AOK a) {p : Nat} (hp : p < aN a) {aim w : Int} (haim : 0 ≤ aim ∧ aim ≤ 2) (hw : 0 ≤ w ∧ w ≤ 2) (pl : PlS) (tr : LyS) (ps : SiS) : ∃ pl' tr' ps', f_X7_leastShift s pl tr ps (iI (p : Int)) (iI aim) (iI w) = some (iI (lsv a p aim w), pl', tr', ps') := by
  have hb := ha.b
  have i1 : f_X7_isWithin (iI aim) (0 : Int32) (2 : Int32) = some (bI (0 ≤ aim ∧ aim ≤ 2)) := F_isWithin (x := aim) (lo := 0) (hi := 2) (by omega) (by omega) (by omega)
  have i2 : f_X7_isWithin (iI w) (0 : Int32) (2 : Int32) = some (bI (0 ≤ w ∧ w ≤ 2)) := F_isWithin (x := w) (lo := 0) (hi := 2) (by omega) (by omega) (by omega)
  obtain ⟨v, pl', tr', ps', e1, c1⟩ := S_findShift hl ha hp pl tr ps haim (d := 8) (D := 9) rfl (by omega)
  refine ⟨pl', tr', ps', ?_⟩
  unfold f_X7_leastShift
  rw [L_has hl (by omega) (by omega), ob_some, if_b, if_pos (by omega), i1, ob_some, if_b, if_pos haim, i2, ob_some, if_b, if_pos hw, show f_X3_findShift pl s tr ps (iI (p : Int)) (iI aim) (8 : Int32) = _ from e1, ob_some]
  dsimp only
  unfold lsv
  rcases c1 with ⟨rfl, q1⟩ | ⟨X, Y, rfl, q1, q2, q3⟩
  · rw [if_pos rfl, q1]
    rfl
  · obtain ⟨-, h8, -⟩ := sC_first q1
    have hX := ab_b X
    have hY := ab_b Y
    rw [if_neg (show ¬ (1 : Int32) = 0 by decide), q1]
    unfold f_X3_cost f_X3_dx f_X3_dy
    rw [q2, q3, F_abs (by omega), F_abs (by omega), iI_add, ob_some, ob_some, ob_some]
    rcases (show w = 0 ∨ w = 1 ∨ w = 2 by omega) with rfl | rfl | rfl
    · rw [if_pos (show iI 0 = (0 : Int32) from rfl)]
      rfl
    · rw [if_neg (show ¬ iI 1 = (0 : Int32) by decide), if_pos (show iI 1 = (1 : Int32) from rfl)]
      rfl
    · rw [if_neg (show ¬ iI 2 = (0 : Int32) by decide), if_neg (show ¬ iI 2 = (1 : Int32) by decide)]
      rfl
theorem lsv_none {p : Nat} {aim : Int} (h : sC (rchN a p (need a aim)) 9 = none) (w : Int) : lsv a p aim w = -109 := by
  unfold lsv
  rw [h]
theorem lsv_some {p : Nat} {aim x y : Int} (h : sC (rchN a p (need a aim)) 9 = some (x, y)) : lsv a p aim 0 = ab x + ab y ∧ lsv a p aim 1 = x ∧ lsv a p aim 2 = y := by
  unfold lsv
  rw [h]
  exact ⟨rfl, rfl, rfl⟩
theorem z_least_no (hl : LOK s a) (ha : AOK a) {x aim : Int} (hx : -2147483648 ≤ x ∧ x < 2147483648) (hy : -2147483648 ≤ aim ∧ aim < 2147483648) (h : ¬ (0 ≤ x ∧ x < aN a) ∨ ¬ (0 ≤ aim ∧ aim ≤ 2)) (w : Int32) (pl : PlS) (tr : LyS) (ps : SiS) : f_X7_leastShift s pl tr ps (iI x) (iI aim) w = some ((-101 : Int32), pl, tr, ps) := by
  have hb := ha.b
  have i1 : f_X7_isWithin (iI aim) (0 : Int32) (2 : Int32) = some (bI (0 ≤ aim ∧ aim ≤ 2)) := F_isWithin (x := aim) (lo := 0) (hi := 2) hy (by omega) (by omega)
  unfold f_X7_leastShift
  rw [L_has hl (by omega) hx, ob_some, if_b, i1, ob_some, if_b]
  by_cases c1 : 0 ≤ x ∧ x < aN a
  · rw [if_pos c1, if_neg (by omega)]
  · rw [if_neg c1]
theorem z_layerFor (hl : LOK s a) (ha : AOK a) {l0 : Nat} (hl0 : l0 < aN a) (tr : LyS) (ps : SiS) : ∃ v tr' ps', f_X7_layerFor s tr ps (iI (aO a l0 : Int)) = some (iI v, tr', ps') ∧ ((∃ j : Nat, v = (j : Int) ∧ j < aN a ∧ con (aMov a l0 j) (aO a l0) = true ∧ ∀ i, i < j → ¬ con (aMov a l0 i) (aO a l0) = true) ∨ (v = -109 ∧ ∀ i, i < aN a → ¬ con (aMov a l0 i) (aO a l0) = true)) := by
  have hb := ha.b
  have hp := ha.o hl0
  obtain ⟨C, hC⟩ : ∃ C : Nat → Bool, C = fun i => con (aMov a l0 i) (aO a l0) := ⟨_, rfl⟩
  obtain ⟨s1, f1, hq⟩ := L_take tr s
  have hl1 : LOK s1 (aMov a l0 l0) := by rw [aMov_same]; exact hq.ok (by omega) hl
  have kc := x_for (B := b_X3_lowestLayer_13 s (iI (aO a l0 : Int))) (fun i (u : LyS × SiS) => (iI (i : Int), u.1, u.2)) (fun i u => (∀ j, j < i → C j = false) ∧ ∃ l1, l1 < aN a ∧ LOK u.1 (aMov a l0 l1)) (aN a)
    (fun b => (∃ j t1 t2, j < aN a ∧ C j = true ∧ (∀ k, k < j → C k = false) ∧ b = Sum.inl (iI (j : Int), t1, t2)) ∨ ((∀ j, j < aN a → C j = false) ∧ ∃ z t1 t2, b = Sum.inr (z, t1, t2)))
    (by
      rintro i ⟨tr, ps⟩ hi ⟨h1, l1, hl1, h2⟩
      dsimp only at h2
      have hA := aMov_AOK ha hl0 hl1
      obtain ⟨s2, f2, k2, -⟩ := L_putIntoLayer h2 hA (l0 := l1) (l1 := i) hl1 hi
      rw [aMov_at, aMov_aMov] at *
      have hA2 := aMov_AOK ha hl0 hi
      obtain ⟨ps', f3, k3⟩ := L_look k2 hA2 ps
      have f4 := S_isContent k2 hA2 k3 (p := aO a l0) hp
      have hB : b_X3_lowestLayer_13 s (iI (aO a l0 : Int)) (iI (i : Int), tr, ps) = if C i = true then some (.inr (.inl (iI (i : Int), s2, ps'))) else some (.inl (iI ((i + 1 : Nat) : Int), s2, ps')) := by
        rw [b_X3_lowestLayer_13]
        unfold f_X1_pieces
        rw [ob_some, hl.n, f2, ob_some]
        dsimp only
        rw [f3, ob_some, f4, ob_some, if_b]
        simp (disch := omega) only [iI_le]
        rw [if_neg (by omega), hC, iI_suc]
      dsimp only
      rw [hB]
      by_cases c : C i = true
      · right
        rw [if_pos c]
        exact ⟨_, rfl, Or.inl ⟨i, _, _, hi, c, h1, rfl⟩⟩
      · left
        rw [if_neg c]
        refine ⟨(s2, ps'), rfl, fun j hj => ?_, i, hi, k2⟩
        by_cases e : j = i
        · subst e; exact Bool.eq_false_iff.mpr c
        · exact h1 j (by omega))
    (by
      rintro ⟨tr, ps⟩ ⟨h1, -⟩
      rw [b_X3_lowestLayer_13]
      unfold f_X1_pieces
      rw [ob_some, hl.n]
      simp (disch := omega) only [iI_le]
      rw [if_pos (by omega)]
      exact ⟨_, rfl, Or.inr ⟨h1, _, _, _, rfl⟩⟩)
    (s1, ps) ⟨fun j hj => by omega, l0, hl0, hl1⟩ (by omega)
  obtain ⟨b1, e1, g1⟩ := kc
  have e1' : x_loop (b_X3_lowestLayer_13 s (iI (aO a l0 : Int))) x_fuel ((0 : Int32), s1, ps) = some b1 := e1
  have pre : ∀ r : Int32 × LyS × SiS, (Sum.elim (fun r_ => some r_) (fun (x : Int32 × LyS × SiS) => some ((-109 : Int32), x.2.1, x.2.2)) b1 : Option (Int32 × LyS × SiS)) = some r → f_X7_layerFor s tr ps (iI (aO a l0 : Int)) = some r := by
    intro r hr
    unfold f_X7_layerFor f_X3_lowestLayer
    rw [L_has hl (by omega) (by omega), ob_some, if_b, if_pos (by omega), f1, ob_some, e1', ob_some]
    have : (Sum.elim (fun r_ => some r_) (fun (x15, s16, s17) => some ((-109 : Int32), s16, s17)) b1 : Option (Int32 × LyS × SiS)) = some r := hr
    rw [this, ob_some]
  rcases g1 with ⟨j, u1, u2, q1, q2, q3, rfl⟩ | ⟨q1, z', u1, u2, rfl⟩
  · refine ⟨(j : Int), u1, u2, pre _ rfl, Or.inl ⟨j, rfl, q1, ?_, fun i hi z => ?_⟩⟩
    · rw [hC] at q2
      exact q2
    · have q := q3 i hi
      rw [hC] at q
      dsimp only at q
      rw [q] at z
      cases z
  · refine ⟨-109, u1, u2, pre _ rfl, Or.inr ⟨rfl, fun i hi z => ?_⟩⟩
    have q := q1 i hi
    rw [hC] at q
    dsimp only at q
    rw [q] at z
    cases z
theorem z_layerFor_no (hl : LOK s a) (ha : AOK a) {x : Int} (hx : -2147483648 ≤ x ∧ x < 2147483648) (h : ¬ (0 ≤ x ∧ x < aN a)) (tr : LyS) (ps : SiS) : f_X7_layerFor s tr ps (iI x) = some ((-101 : Int32), tr, ps) := by
  have hb := ha.b
  unfold f_X7_layerFor
  rw [L_has hl (by omega) hx, ob_some, if_b, if_neg h]
theorem z_worst0 (hl : LOK s a) (h : aN a = 0) (tr : LyS) (ps : SiS) : ∃ tr' ps', f_X7_worst s tr ps = some ((-109 : Int32), tr', ps') := by
  have kc := x_for (B := b_X3_worstPiece_7 s) (fun i (u : LyS × SiS) => ((-109 : Int32), (-1 : Int32), iI (i : Int), u.1, u.2)) (fun _ _ => True) 0 (fun b => ∃ z1 z2 t1 t2, b = ((-109 : Int32), z1, z2, t1, t2))
    (by intro i _ hi; omega)
    (by
      rintro ⟨tr, ps⟩ -
      rw [b_X3_worstPiece_7]
      unfold f_X1_pieces
      rw [ob_some, hl.n, h]
      simp (disch := omega) only [iI_le]
      rw [if_pos (by omega)]
      exact ⟨_, rfl, _, _, _, _, rfl⟩) (tr, ps) trivial (by omega)
  obtain ⟨b, e, z1, z2, t1, t2, rfl⟩ := kc
  unfold f_X7_worst f_X3_worstPiece
  rw [show x_loop (b_X3_worstPiece_7 s) x_fuel ((-109 : Int32), (-1 : Int32), (0 : Int32), tr, ps) = _ from e, ob_some]
  exact ⟨_, _, rfl⟩
theorem z_arrange0 {G : SiS → SiS} (hl : LOK s a) (ha : AOK a) (hG : LK s a G) (h : cons a = aN a) (ss : SiS) (pl : PlS) (tr : LyS) (ps : SiS) (hi : HiS) (h0 h1 h2 h3 h4 : LyS) : f_X7_arrange s ss pl tr ps hi h0 h1 h2 h3 h4 = some ((-102 : Int32), s, G ss, pl, tr, ps, hi, h0, h1, h2, h3, h4) := by
  unfold f_X7_arrange f_X1_pieces
  rw [(hG ss).1, ob_some, S_contentPieces hl ha (hG ss).2, ob_some, ob_some, hl.n, if_pos (by rw [h])]
theorem z_arrange {c : Int} {hi : HiS} {k : Nat} (hs : CS s a c) (hH : HK hi k) (h : cons a ≠ aN a) (ss : SiS) (pl : PlS) (tr : LyS) (ps : SiS) (h0 h1 h2 h3 h4 : LyS) : ∃ n d s' ss' pl' tr' ps' hi' h0' h1' h2' h3' h4' k', f_X7_arrange s ss pl tr ps hi h0 h1 h2 h3 h4 = some (iI ((n : Nat) : Int), s', ss', pl', tr', ps', hi', h0', h1', h2', h3', h4') ∧ n ≤ 12 ∧ (n = 12 ∨ ist (itr a n)) ∧ CS s' (itr a n) (c + ((d : Nat) : Int)) ∧ n ≤ d ∧ d ≤ 8 * n ∧ aN (itr a n) = aN a ∧ cons a ≤ cons (itr a n) ∧ HK hi' (k' + 1) ∧ HU hi' h0' h1' h2' h3' h4' s k' := by
  obtain ⟨ha, hl, hc⟩ := hs
  have hb := ha.b
  have hcl := cons_le a
  obtain ⟨t0, t1, t2, t3, t4, t5, k', e1, u1, u2⟩ := z_record hH h0 h1 h2 h3 h4 s
  obtain ⟨ss1, f2, k3⟩ := L_look hl ha ss
  obtain ⟨n, s', ss', pl', tr', ps', g1, g2, g3, g4, g5, g6, g7⟩ := S_arr hl ha ss1 pl tr ps
  obtain ⟨r1, r2, d, r3, r4, r5⟩ := itr_ok (a := a) c n g4
  have cn : ¬ iI (cons a : Int) = iI (aN a : Int) := fun z => by
    have := (iI_eq (by omega) (by omega) (by omega) (by omega)).mp z
    omega
  refine ⟨n, d, s', ss', pl', tr', ps', t0, t1, t2, t3, t4, t5, k', ?_, g2, g3, ⟨g5, g6, by rw [g7, hc, r5]⟩, r3, r4, r1, r2, u1, u2⟩
  unfold f_X7_arrange f_X1_pieces
  rw [f2, ob_some, S_contentPieces hl ha k3, ob_some, ob_some, hl.n, if_neg cn, e1, ob_some]
  dsimp only
  rw [g1, ob_some]
end ZC
/-! what is refused -/
section ZD
variable {s : LyS} {a : AL} {hi : HiS} {h0 h1 h2 h3 h4 : LyS}
theorem z_setPage_no {x y : Int} (hx : -2147483648 ≤ x ∧ x < 2147483648) (hy : -2147483648 ≤ y ∧ y < 2147483648) (h : ¬ (4 ≤ x ∧ x ≤ 24) ∨ ¬ (4 ≤ y ∧ y ≤ 24)) (ss : SiS) : f_X7_setPage s ss hi h0 h1 h2 h3 h4 (iI x) (iI y) = some ((-101 : Int32), s, ss, hi, h0, h1, h2, h3, h4) := by
  have i1 : f_X7_isWithin (iI x) (4 : Int32) (24 : Int32) = some (bI (4 ≤ x ∧ x ≤ 24)) := F_isWithin (x := x) (lo := 4) (hi := 24) hx (by omega) (by omega)
  have i2 : f_X7_isWithin (iI y) (4 : Int32) (24 : Int32) = some (bI (4 ≤ y ∧ y ≤ 24)) := F_isWithin (x := y) (lo := 4) (hi := 24) hy (by omega) (by omega)
  unfold f_X7_setPage
  rw [i1, ob_some, if_b, i2, ob_some, if_b]
  by_cases c1 : 4 ≤ x ∧ x ≤ 24
  · rw [if_pos c1, if_neg (by omega)]
  · rw [if_neg c1]
theorem z_addPiece_no {x y w u q : Int} (hx : -1000 ≤ x ∧ x ≤ 1000) (hy : -1000 ≤ y ∧ y ≤ 1000) (hw : -1000 ≤ w ∧ w ≤ 1000) (hu : -1000 ≤ u ∧ u ≤ 1000) (hq : -1000 ≤ q ∧ q ≤ 1000) (h : ¬ (-20 ≤ x ∧ x ≤ 40) ∨ ¬ (-20 ≤ y ∧ y ≤ 40) ∨ ¬ (1 ≤ w ∧ w ≤ 12) ∨ ¬ (1 ≤ u ∧ u ≤ 12) ∨ ¬ (0 ≤ q ∧ q ≤ 100)) : f_X7_addPiece s hi h0 h1 h2 h3 h4 (iI x) (iI y) (iI w) (iI u) (iI q) = some ((-101 : Int32), s, hi, h0, h1, h2, h3, h4) := by
  unfold f_X7_addPiece
  rw [show f_X7_fits (0 : Int32) (iI x) = _ from F_fits0 (by omega), ob_some, if_b, show f_X7_fits (1 : Int32) (iI y) = _ from F_fits1 (by omega), ob_some, if_b, show f_X7_fits (2 : Int32) (iI w) = _ from F_fits2 (by omega), ob_some, if_b, show f_X7_fits (3 : Int32) (iI u) = _ from F_fits3 (by omega), ob_some, if_b, show f_X7_fits (4 : Int32) (iI q) = _ from F_fits4 (by omega), ob_some, if_b]
  by_cases c1 : -20 ≤ x ∧ x ≤ 40
  · rw [if_pos c1]
    by_cases c2 : -20 ≤ y ∧ y ≤ 40
    · rw [if_pos c2]
      by_cases c3 : 1 ≤ w ∧ w ≤ 12
      · rw [if_pos c3]
        by_cases c4 : 1 ≤ u ∧ u ≤ 12
        · rw [if_pos c4, if_neg (by omega)]
        · rw [if_neg c4]
      · rw [if_neg c3]
    · rw [if_neg c2]
  · rw [if_neg c1]
theorem z_removePiece_no (hl : LOK s a) (ha : AOK a) {x : Int} (hx : -2147483648 ≤ x ∧ x < 2147483648) (h : ¬ (0 ≤ x ∧ x < aN a)) : f_X7_removePiece s hi h0 h1 h2 h3 h4 (iI x) = some ((-101 : Int32), s, hi, h0, h1, h2, h3, h4) := by
  have hb := ha.b
  unfold f_X7_removePiece
  rw [L_has hl (by omega) hx, ob_some, if_b, if_neg h]
theorem z_setShare_no (hl : LOK s a) (ha : AOK a) {x : Int} (hx : -2147483648 ≤ x ∧ x < 2147483648) (h : ¬ (0 ≤ x ∧ x < aN a)) (v : Int32) : f_X7_setShare s hi h0 h1 h2 h3 h4 (iI x) v = some ((-101 : Int32), s, hi, h0, h1, h2, h3, h4) := by
  have hb := ha.b
  unfold f_X7_setShare f_X7_setProperty
  rw [L_has hl (by omega) hx, ob_some, if_b, if_neg h, ob_some]
theorem z_setFrame_no (hl : LOK s a) (ha : AOK a) {x : Int} (hx : -2147483648 ≤ x ∧ x < 2147483648) (h : ¬ (0 ≤ x ∧ x < aN a)) (v : Int32) : f_X7_setFrame s hi h0 h1 h2 h3 h4 (iI x) v = some ((-101 : Int32), s, hi, h0, h1, h2, h3, h4) := by
  have hb := ha.b
  unfold f_X7_setFrame f_X7_setProperty
  rw [L_has hl (by omega) hx, ob_some, if_b, if_neg h, ob_some]
theorem z_shift_no1 (hl : LOK s a) (ha : AOK a) {x dx : Int} (hx : -2147483648 ≤ x ∧ x < 2147483648) (hd : -2147483648 ≤ dx ∧ dx < 2147483648) (h : ¬ (0 ≤ x ∧ x < aN a) ∨ ¬ (-60 ≤ dx ∧ dx ≤ 60)) (dy : Int32) : f_X7_shift s hi h0 h1 h2 h3 h4 (iI x) (iI dx) dy = some ((-101 : Int32), s, hi, h0, h1, h2, h3, h4) := by
  have hb := ha.b
  have i1 : f_X7_isWithin (iI dx) (-60 : Int32) (60 : Int32) = some (bI (-60 ≤ dx ∧ dx ≤ 60)) := by
    rw [show (-60 : Int32) = iI (-60) from rfl, iL_60]
    exact F_isWithin (x := dx) (lo := -60) (hi := 60) hd (by omega) (by omega)
  unfold f_X7_shift
  rw [L_has hl (by omega) hx, ob_some, if_b, i1, ob_some, if_b]
  by_cases c1 : 0 ≤ x ∧ x < aN a
  · rw [if_pos c1, if_neg (by omega)]
  · rw [if_neg c1]
theorem z_setLayer_no (hl : LOK s a) (ha : AOK a) {x y : Int} (hx : -2147483648 ≤ x ∧ x < 2147483648) (hy : -2147483648 ≤ y ∧ y < 2147483648) (h : ¬ (0 ≤ x ∧ x < aN a) ∨ ¬ (0 ≤ y ∧ y < aN a)) : f_X7_setLayer s hi h0 h1 h2 h3 h4 (iI x) (iI y) = some ((-101 : Int32), s, hi, h0, h1, h2, h3, h4) := by
  have hb := ha.b
  unfold f_X7_setLayer
  rw [L_has hl (by omega) hx, ob_some, if_b, L_has hl (by omega) hy, ob_some, if_b]
  by_cases c1 : 0 ≤ x ∧ x < aN a
  · rw [if_pos c1, if_neg (by omega)]
  · rw [if_neg c1]
theorem z_append_no (tx : TxS) : f_X7_append tx (0 : Int32) = some ((-101 : Int32), tx) := by
  have i1 : f_X7_isWithin (0 : Int32) (1 : Int32) (255 : Int32) = some (bI (1 ≤ (0 : Int) ∧ (0 : Int) ≤ 255)) := F_isWithin (x := 0) (lo := 1) (hi := 255) (by omega) (by omega) (by omega)
  unfold f_X7_append
  rw [i1, ob_some, if_b, if_neg (by omega)]
end ZD
