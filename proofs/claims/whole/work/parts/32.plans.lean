/-! leastShift on both sides -/
theorem q_leastShift {s : LyS} {m : Nat → Int32} (h : LM s m) (p0 p1 p2 : Int32) (pl : PlS) (tr : LyS) (ps : SiS) (sh so : Nat → Int32) (lx ly : Int32) : ∃ v pl' tr' ps' sh' so' lx' ly', f_X7_leastShift s pl tr ps p0 p1 p2 = some (v, pl', tr', ps') ∧ f_X8_leastShift m sh so lx ly p0 p1 p2 = some (v, m, sh', so', lx', ly') := by
  obtain ⟨a, ha, hl, hm, -⟩ := h
  have hb := ha.b
  obtain ⟨x, hx1, hx2, rfl⟩ := iI_of p0
  obtain ⟨aim, hy1, hy2, rfl⟩ := iI_of p1
  obtain ⟨w, hz1, hz2, rfl⟩ := iI_of p2
  have i1 : f_X7_isWithin (iI aim) (0 : Int32) (2 : Int32) = some (bI (0 ≤ aim ∧ aim ≤ 2)) := F_isWithin (x := aim) (lo := 0) (hi := 2) ⟨hy1, hy2⟩ (by omega) (by omega)
  have i2 : f_X7_isWithin (iI w) (0 : Int32) (2 : Int32) = some (bI (0 ≤ w ∧ w ≤ 2)) := F_isWithin (x := w) (lo := 0) (hi := 2) ⟨hz1, hz2⟩ (by omega) (by omega)
  have j1 : f_X8_in (iI aim) (0 : Int32) (2 : Int32) = some (bI (0 ≤ aim ∧ aim ≤ 2)) := M_in (x := aim) (lo := 0) (hi := 2) ⟨hy1, hy2⟩ (by omega) (by omega)
  have j2 : f_X8_in (iI w) (0 : Int32) (2 : Int32) = some (bI (0 ≤ w ∧ w ≤ 2)) := M_in (x := w) (lo := 0) (hi := 2) ⟨hz1, hz2⟩ (by omega) (by omega)
  unfold f_X7_leastShift f_X8_leastShift
  rw [L_has hl (by omega) ⟨hx1, hx2⟩, M_isPiece hm (by omega) ⟨hx1, hx2⟩, ob_some, ob_some, if_b, if_b]
  by_cases hx : 0 ≤ x ∧ x < aN a
  · rw [if_pos hx, if_pos hx, i1, j1, ob_some, ob_some, if_b, if_b]
    by_cases hy : 0 ≤ aim ∧ aim ≤ 2
    · rw [if_pos hy, if_pos hy, i2, j2, ob_some, ob_some, if_b, if_b]
      by_cases hz : 0 ≤ w ∧ w ≤ 2
      · obtain ⟨x', rfl⟩ : ∃ x' : Nat, (x' : Int) = x := ⟨x.toNat, by omega⟩
        have hp : x' < aN a := by omega
        obtain ⟨v, pl', tr', ps', e1, c1⟩ := S_findShift hl ha hp pl tr ps hy (d := 8) (D := 9) rfl (by omega)
        obtain ⟨v', sh', so', lx', ly', e2, c2⟩ := M_findLeast hm ha hp hy sh so lx ly
        rw [if_pos hz, if_pos hz, show f_X3_findShift pl s tr ps (iI (x' : Int)) (iI aim) (8 : Int32) = _ from e1, e2, ob_some (v, pl', tr', ps'), ob_some (v', m, sh', so', lx', ly')]
        dsimp only
        rcases c1 with ⟨rfl, q1⟩ | ⟨X, Y, rfl, q1, q2, q3⟩
        · rcases c2 with ⟨rfl, r1⟩ | ⟨X', Y', rfl, r1, r2, r3, r4⟩
          · rw [if_pos rfl, if_pos (show iI (-109) = (-109 : Int32) from rfl)]
            exact ⟨_, _, _, _, _, _, _, _, rfl, rfl⟩
          · rw [q1] at r3; cases r3
        · rcases c2 with ⟨rfl, r1⟩ | ⟨X', Y', rfl, r1, r2, r3, r4⟩
          · rw [q1] at r1; cases r1
          · rw [q1] at r3
            simp only [Option.some.injEq, Prod.mk.injEq] at r3
            obtain ⟨rfl, rfl⟩ := r3
            have hX := ab_b X
            have hY := ab_b Y
            have n0 : ¬ iI (ab X + ab Y) = (-109 : Int32) := fun z => by
              have := (iI_eq (by omega) (by omega) (by omega) (by omega)).mp (show iI (ab X + ab Y) = iI (-109) from z)
              omega
            unfold f_X3_cost f_X3_dx f_X3_dy
            rw [if_neg (show ¬ (1 : Int32) = 0 by decide), if_neg n0, q2, q3, F_abs (by omega), F_abs (by omega), iI_add, r1, r2, ob_some (iI (ab X + ab Y)), ob_some (iI X), ob_some (iI Y)]
            by_cases c0 : iI w = 0
            · rw [if_pos c0, if_pos c0]
              exact ⟨_, _, _, _, _, _, _, _, rfl, rfl⟩
            · rw [if_neg c0, if_neg c0]
              by_cases c1 : iI w = (1 : Int32)
              · rw [if_pos c1, if_pos c1]
                exact ⟨_, _, _, _, _, _, _, _, rfl, rfl⟩
              · rw [if_neg c1, if_neg c1]
                exact ⟨_, _, _, _, _, _, _, _, rfl, rfl⟩
      · rw [if_neg hz, if_neg hz]
        exact ⟨_, _, _, _, _, _, _, _, rfl, rfl⟩
    · rw [if_neg hy, if_neg hy]
      exact ⟨_, _, _, _, _, _, _, _, rfl, rfl⟩
  · rw [if_neg hx, if_neg hx]
    exact ⟨_, _, _, _, _, _, _, _, rfl, rfl⟩
/-! what is seen without one piece -/
theorem tW_rem {a : AL} (ha : AOK a) {l0 : Nat} (h0 : l0 < aN a) (x y : Int) : ∀ L, L ≤ aN a → tW a (aO a l0) x y L = (if tW (aRem a l0) (-109) x y (if L ≤ l0 then L else L - 1) < (aO a l0 : Int) then tW (aRem a l0) (-109) x y (if L ≤ l0 then L else L - 1) else tW (aRem a l0) (-109) x y (if L ≤ l0 then L else L - 1) + 1) := by
  intro L
  have cv : ∀ l, l < aN a → l ≠ l0 → cov (aRem a l0) (dec (aO a l0) (aO a l)) x y = cov a (aO a l) x y := by
    intro l hl hne
    have hq : aO a l ≠ aO a l0 := fun q => hne (ha.inj hl h0 q)
    have e : ∀ u, aP (aRem a l0) (dec (aO a l0) (aO a l)) u = aP a (aO a l) u := by
      intro u
      show (if dec (aO a l0) (aO a l) < aO a l0 then aP a (dec (aO a l0) (aO a l)) u else aP a (dec (aO a l0) (aO a l) + 1) u) = _
      unfold dec
      by_cases c : aO a l0 < aO a l
      · rw [if_pos c, if_neg (by omega), show aO a l - 1 + 1 = aO a l by omega]
      · rw [if_neg c, if_pos (by omega)]
    unfold cov
    rw [e, e, e, e]
  induction L with
  | zero =>
    intro _
    rw [if_pos (Nat.zero_le _)]
    show (-1 : Int) = if (-1 : Int) < (aO a l0 : Int) then -1 else -1 + 1
    rw [if_pos (by omega)]
  | succ L ih =>
    intro hL
    have ih := ih (by omega)
    rw [tW]
    by_cases c : L = l0
    · subst c
      rw [if_neg (fun q => q.2 rfl), ih, if_pos (Nat.le_refl _), if_neg (show ¬ L + 1 ≤ L by omega), show L + 1 - 1 = L by omega]
    · have hne : aO a L ≠ aO a l0 := fun q => c (ha.inj (by omega) h0 q)
      -- the layer of the rest
      obtain ⟨K, hK⟩ : ∃ K, K = if L ≤ l0 then L else L - 1 := ⟨_, rfl⟩
      have hK1 : (if L + 1 ≤ l0 then L + 1 else L + 1 - 1) = K + 1 := by rw [hK]; split <;> split <;> omega
      have hKL : (if K < l0 then K else K + 1) = L := by rw [hK]; repeat' split
                                                         all_goals omega
      have eO : aO (aRem a l0) K = dec (aO a l0) (aO a L) := by
        show dec (aO a l0) (aO a (if K < l0 then K else K + 1)) = _
        rw [hKL]
      rw [← hK] at ih
      rw [hK1, ih]
      have es : tW (aRem a l0) (-109) x y (K + 1) = if cov a (aO a L) x y = true then (dec (aO a l0) (aO a L) : Int) else tW (aRem a l0) (-109) x y K := by
        rw [tW, eO, cv L (by omega) c]
        by_cases c2 : cov a (aO a L) x y = true
        · rw [if_pos c2, if_pos ⟨c2, by omega⟩]
        · rw [if_neg c2, if_neg (fun q => c2 q.1)]
      rw [es]
      by_cases c2 : cov a (aO a L) x y = true
      · rw [if_pos ⟨c2, by omega⟩, if_pos c2]
        unfold dec
        by_cases c3 : aO a l0 < aO a L
        · rw [if_pos c3, if_neg (by omega)]
          omega
        · rw [if_neg c3, if_pos (by omega)]
      · rw [if_neg (fun q => c2 q.1), if_neg c2]
