/-! the least shift -/
def need (a : AL) (aim : Int) : Nat := if aim = 1 then cons a else if aim = 2 then aN a else 0
def posb (a : AL) (p : Nat) (dx dy : Int) : Prop := (-20 ≤ aP a p 0 + dx ∧ aP a p 0 + dx ≤ 40) ∧ -20 ≤ aP a p 1 + dy ∧ aP a p 1 + dy ≤ 40
def rchN (a : AL) (p : Nat) (nd : Nat) (dx dy : Int) : Bool := decide ((-20 ≤ aP a p 0 + dx ∧ aP a p 0 + dx ≤ 40) ∧ -20 ≤ aP a p 1 + dy ∧ aP a p 1 + dy ≤ 40) && (con (aSh a p dx dy) p && decide (nd ≤ cons (aSh a p dx dy)))
theorem LOK.shift {s : LyS} {a : AL} {p : Nat} {e1 e2 : Int} (ha : aN a ≤ 12) (h : LOK s (aSh a p e1 e2)) (hp : p < aN a) (dx dy : Int) : ∃ s1 s2, f_X1_set s (iI (p : Int)) (iI 0) (iI (aP a p 0 + dx)) = some s1 ∧ f_X1_set s1 (iI (p : Int)) (iI 1) (iI (aP a p 1 + dy)) = some s2 ∧ LOK s2 (aSh a p dx dy) := by
  obtain ⟨s1, f1, k1, -⟩ := L_set h (show aN a ≤ 12 from ha) (p := p) (w := 0) hp (by omega) (wi := 0) (v := aP a p 0 + dx) rfl
  obtain ⟨s2, f2, k2, -⟩ := L_set k1 (show aN a ≤ 12 from ha) (p := p) (w := 1) hp (by omega) (wi := 1) (v := aP a p 1 + dy) rfl
  refine ⟨s1, s2, f1, f2, k2.congr rfl (fun q u hq hu => ?_) (fun _ _ => rfl)⟩
  rw [aSet_P, aSet_P, aSh_P, aSh_P]
  by_cases c : q = p
  · subst c
    rcases (show u = 0 ∨ u = 1 ∨ 2 ≤ u by omega) with rfl | rfl | c2
    · simp
    · simp
    · have n0 : ¬ u = 0 := by omega
      have n1 : ¬ u = 1 := by omega
      simp [n0, n1]
  · simp [c]
theorem S_reaches {s : LyS} {a : AL} (hl : LOK s a) (ha : AOK a) {p : Nat} (hp : p < aN a) {tr : LyS} {e1 e2 : Int} (ht : LOK tr (aSh a p e1 e2)) (pl : PlS) (ss : SiS) {nd : Nat} (hn : nd ≤ 12) {dx dy : Int} (hx : -1000 ≤ dx ∧ dx ≤ 1000) (hy : -1000 ≤ dy ∧ dy ≤ 1000) :
    ∃ pl' tr' ss' e1' e2', f_X3_reaches pl s tr ss (iI (p : Int)) (iI dx) (iI dy) (iI (nd : Int)) = some (bI (rchN a p nd dx dy = true), pl', tr', ss') ∧ LOK tr' (aSh a p e1' e2') ∧ (rchN a p nd dx dy = true → Pl_dx pl' = iI dx ∧ Pl_dy pl' = iI dy) := by
  have hb := ha.b
  unfold f_X3_reaches
  rw [L_canMove hl ha hp (by omega) (by omega), ob_some, if_b]
  by_cases hc : (-20 ≤ aP a p 0 + dx ∧ aP a p 0 + dx ≤ 40) ∧ -20 ≤ aP a p 1 + dy ∧ aP a p 1 + dy ≤ 40
  · obtain ⟨s1, s2, f1, f2, k2⟩ := ht.shift (by omega) hp dx dy
    have hA := aSh_AOK ha hc
    obtain ⟨ss', f3, k3⟩ := L_look k2 hA ss
    have hcl := cons_le (aSh a p dx dy)
    have hN : aN (aSh a p dx dy) = aN a := rfl
    have er : rchN a p nd dx dy = (con (aSh a p dx dy) p && decide (nd ≤ cons (aSh a p dx dy))) := by
      unfold rchN
      rw [decide_eq_true hc, Bool.true_and]
    rw [if_pos hc, show f_X1_get s (iI (p : Int)) (0 : Int32) = _ from L_get0 hl (by omega) hp, ob_some, iI_add, show f_X1_set tr (iI (p : Int)) (0 : Int32) (iI (aP a p 0 + dx)) = _ from f1, ob_some, show f_X1_get s (iI (p : Int)) (1 : Int32) = _ from L_get1 hl (by omega) hp, ob_some, iI_add, show f_X1_set s1 (iI (p : Int)) (1 : Int32) (iI (aP a p 1 + dy)) = _ from f2, ob_some, f3, ob_some, S_isContent k2 hA k3 hp, ob_some, if_b, S_contentPieces k2 hA k3, ob_some]
    simp (disch := omega) only [iI_lt]
    rw [er]
    by_cases c1 : con (aSh a p dx dy) p = true
    · rw [if_pos c1]
      by_cases c2 : nd ≤ cons (aSh a p dx dy)
      · have e : (con (aSh a p dx dy) p && decide (nd ≤ cons (aSh a p dx dy))) = true := by rw [c1, decide_eq_true c2]; rfl
        rw [if_neg (by omega), bI_t e]
        exact ⟨_, _, _, dx, dy, rfl, k2, fun _ => ⟨rfl, rfl⟩⟩
      · have e : ¬ (con (aSh a p dx dy) p && decide (nd ≤ cons (aSh a p dx dy))) = true := by rw [decide_eq_false c2, Bool.and_false]; simp
        rw [if_pos (by omega), bI_f e]
        exact ⟨_, _, _, dx, dy, rfl, k2, fun q => absurd q e⟩
    · have e : ¬ (con (aSh a p dx dy) p && decide (nd ≤ cons (aSh a p dx dy))) = true := fun q => c1 (by rw [Bool.and_eq_true] at q; exact q.1)
      rw [if_neg c1, bI_f e]
      exact ⟨_, _, _, dx, dy, rfl, k2, fun q => absurd q e⟩
  · have e : ¬ rchN a p nd dx dy = true := by
      unfold rchN
      rw [decide_eq_false hc, Bool.false_and]
      simp
    rw [if_neg hc, bI_f e]
    exact ⟨_, _, _, e1, e2, rfl, ht, fun q => absurd q e⟩
/-! the order of the search, on both sides the same -/
def sF (R : Int → Int → Bool) (c x : Int) : Option (Int × Int) := if R x (-(c - ab x)) = true then some (x, -(c - ab x)) else if R x (c - ab x) = true then some (x, c - ab x) else none
def sX (R : Int → Int → Bool) (c : Int) : Nat → Option (Int × Int)
  | 0 => none
  | k + 1 => match sX R c k with
    | some r => some r
    | none => sF R c (-c + k)
def sC (R : Int → Int → Bool) : Nat → Option (Int × Int)
  | 0 => none
  | n + 1 => match sC R n with
    | some r => some r
    | none => sX R n (2 * n + 1)
theorem sX_stop {R : Int → Int → Bool} {c : Int} {k n : Nat} {r : Int × Int} (h : sX R c k = some r) (hk : k ≤ n) : sX R c n = some r := by
  induction n with
  | zero =>
    have : k = 0 := by omega
    subst this
    exact h
  | succ n ih =>
    by_cases e : k = n + 1
    · subst e; exact h
    · rw [sX, ih (by omega)]
theorem sC_stop {R : Int → Int → Bool} {k n : Nat} {r : Int × Int} (h : sC R k = some r) (hk : k ≤ n) : sC R n = some r := by
  induction n with
  | zero =>
    have : k = 0 := by omega
    subst this
    exact h
  | succ n ih =>
    by_cases e : k = n + 1
    · subst e; exact h
    · rw [sC, ih (by omega)]
theorem ab_b (x : Int) : 0 ≤ ab x ∧ (ab x = x ∨ ab x = -x) := by
  unfold ab
  split <;> omega
theorem S_findShift {s : LyS} {a : AL} (hl : LOK s a) (ha : AOK a) {p : Nat} (hp : p < aN a) (pl : PlS) (tr : LyS) (ss : SiS) {aim : Int} (haim : 0 ≤ aim ∧ aim ≤ 2) {d : Int} {D : Nat} (hd : d + 1 = D) (hD : D ≤ 9) :
    ∃ v pl' tr' ss', f_X3_findShift pl s tr ss (iI (p : Int)) (iI aim) (iI d) = some (v, pl', tr', ss') ∧ ((v = 0 ∧ sC (rchN a p (need a aim)) D = none) ∨ ∃ x y, v = 1 ∧ sC (rchN a p (need a aim)) D = some (x, y) ∧ Pl_dx pl' = iI x ∧ Pl_dy pl' = iI y) := by
  have hb := ha.b
  obtain ⟨R, hR⟩ : ∃ R, R = rchN a p (need a aim) := ⟨_, rfl⟩
  obtain ⟨s1, f1, hq⟩ := L_take tr s
  have ht0 : LOK s1 a := hq.ok (by omega) hl
  have ht : LOK s1 (aSh a p 0 0) := ht0.congr rfl (fun q u hq hu => by
    rw [aSh_P]
    by_cases c : q = p ∧ u = 0
    · rw [if_pos c, c.1, c.2]; omega
    · rw [if_neg c]
      by_cases c2 : q = p ∧ u = 1
      · rw [if_pos c2, c2.1, c2.2]; omega
      · rw [if_neg c2]) (fun _ _ => rfl)
  have hcl := cons_le a
  have hnd : need a aim ≤ 12 := by
    unfold need
    repeat' split
    all_goals omega
  obtain ⟨ss1, f2⟩ : ∃ ss1, f_X3_contentPiecesNeeded s s1 ss (iI aim) = some (iI (need a aim : Int), ss1) := by
    unfold f_X3_contentPiecesNeeded need f_X1_pieces
    obtain ⟨ss1, g1, g2⟩ := L_look ht0 ha ss
    rw [g1, ob_some, S_contentPieces ht0 ha g2, ob_some, ob_some, hl.n]
    rcases (show aim = 0 ∨ aim = 1 ∨ aim = 2 by omega) with rfl | rfl | rfl
    · exact ⟨ss, rfl⟩
    · exact ⟨ss1, rfl⟩
    · exact ⟨ss, rfl⟩
  have inner : ∀ (c : Nat), c ≤ 8 → ∀ (pl : PlS) (tr : LyS) (ss : SiS) (e1 e2 : Int), LOK tr (aSh a p e1 e2) →
      ∃ b, x_loop (b_X3_findShift_32 s (iI (p : Int)) (iI (c : Int)) (iI (need a aim : Int))) x_fuel (iI (-c : Int), pl, tr, ss) = some b ∧
        ((∃ x y pl' tr' ss', b = .inl ((1 : Int32), pl', tr', ss') ∧ sX R c (2 * c + 1) = some (x, y) ∧ Pl_dx pl' = iI x ∧ Pl_dy pl' = iI y) ∨ (∃ z pl' tr' ss' e1 e2, b = .inr (z, pl', tr', ss') ∧ sX R c (2 * c + 1) = none ∧ LOK tr' (aSh a p e1 e2))) := by
    intro c hc pl tr ss e1 e2 htr
    have key := x_for (B := b_X3_findShift_32 s (iI (p : Int)) (iI (c : Int)) (iI (need a aim : Int))) (fun k (u : PlS × LyS × SiS) => (iI (-c + k : Int), u.1, u.2.1, u.2.2)) (fun k u => sX R c k = none ∧ ∃ e1 e2, LOK u.2.1 (aSh a p e1 e2)) (2 * c + 1)
      (fun b => (∃ x y pl' tr' ss', b = .inl ((1 : Int32), pl', tr', ss') ∧ sX R c (2 * c + 1) = some (x, y) ∧ Pl_dx pl' = iI x ∧ Pl_dy pl' = iI y) ∨ (∃ z pl' tr' ss' e1 e2, b = .inr (z, pl', tr', ss') ∧ sX R c (2 * c + 1) = none ∧ LOK tr' (aSh a p e1 e2)))
      (by
        rintro k ⟨pl, tr, ss⟩ hk ⟨h1, e1, e2, h2⟩
        dsimp only at h1 h2
        have hab := ab_b (-c + k)
        obtain ⟨X, hX⟩ : ∃ X : Int, X = -c + k := ⟨_, rfl⟩
        rw [← hX] at hab
        obtain ⟨pa, ta, sa, a1, a2, ra, rb, rc⟩ := S_reaches hl ha hp h2 pl ss hnd (dx := X) (dy := -((c : Int) - ab X)) (by omega) (by omega)
        obtain ⟨pb, tb, sb, b1, b2, ua, ub, uc⟩ := S_reaches hl ha hp rb pa sa hnd (dx := X) (dy := (c : Int) - ab X) (by omega) (by omega)
        rw [← hR] at ra rc ua uc
        have eB : b_X3_findShift_32 s (iI (p : Int)) (iI (c : Int)) (iI (need a aim : Int)) (iI X, pl, tr, ss) = if bI (R X (-((c : Int) - ab X)) = true) = 0 then (if iI ((c : Int) - ab X) ≤ (0 : Int32) then some (.inl (iI X + (1 : Int32), pa, ta, sa)) else (f_X3_reaches pa s ta sa (iI (p : Int)) (iI X) (iI ((c : Int) - ab X)) (iI (need a aim : Int))).bind fun (r20, s21, s22, s23) => if r20 = 0 then some (.inl (iI X + (1 : Int32), s21, s22, s23)) else some (.inr (.inl ((1 : Int32), s21, s22, s23)))) else some (.inr (.inl ((1 : Int32), pa, ta, sa))) := by
          rw [b_X3_findShift_32]
          simp (disch := omega) only [iI_lt]
          rw [if_neg (by omega), x_nm_eq, F_abs (by omega), iI_sub, iI_neg, ra, ob_some]
        have hle : (iI ((c : Int) - ab X) ≤ (0 : Int32)) ↔ ((c : Int) - ab X ≤ 0) := by rw [iL_0, iI_le (by omega) (by omega) (by omega) (by omega)]
        obtain ⟨pc, tc, sc, v1, v2, vb, vc, hstep⟩ : ∃ pc tc sc v1 v2, LOK tc (aSh a p v1 v2) ∧ (¬ (R X (-((c : Int) - ab X)) = true) → R X ((c : Int) - ab X) = true → Pl_dx pc = iI X ∧ Pl_dy pc = iI ((c : Int) - ab X)) ∧ b_X3_findShift_32 s (iI (p : Int)) (iI (c : Int)) (iI (need a aim : Int)) (iI X, pl, tr, ss) = if R X (-((c : Int) - ab X)) = true then some (.inr (.inl ((1 : Int32), pa, ta, sa))) else if R X ((c : Int) - ab X) = true then some (.inr (.inl ((1 : Int32), pc, tc, sc))) else some (.inl (iI (X + 1), pc, tc, sc)) := by
          by_cases c0 : (c : Int) - ab X ≤ 0
          · have hz : -((c : Int) - ab X) = (c : Int) - ab X := by omega
            refine ⟨pa, ta, sa, a1, a2, rb, fun n1 n2 => absurd (by rw [hz]; exact n2) n1, ?_⟩
            rw [eB, if_b]
            by_cases c1 : R X (-((c : Int) - ab X)) = true
            · rw [if_pos c1, if_pos c1]
            · rw [if_neg c1, if_neg c1, if_pos (hle.mpr c0), if_neg (show ¬ (R X ((c : Int) - ab X) = true) from fun h => c1 (by rw [hz]; exact h)), iL_1, iI_add]
          · refine ⟨pb, tb, sb, b1, b2, ub, fun _ n2 => uc n2, ?_⟩
            rw [eB, if_b]
            by_cases c1 : R X (-((c : Int) - ab X)) = true
            · rw [if_pos c1, if_pos c1]
            · rw [if_neg c1, if_neg c1, if_neg (fun h => c0 (hle.mp h)), ua, ob_some]
              dsimp only
              rw [if_b]
              by_cases c2 : R X ((c : Int) - ab X) = true
              · rw [if_pos c2, if_pos c2]
              · rw [if_neg c2, if_neg c2, iL_1, iI_add]
        have hsx : sX R c (k + 1) = sF R c X := by rw [sX, h1, ← hX]
        by_cases c1 : R X (-((c : Int) - ab X)) = true
        · right
          have e : sX R c (k + 1) = some (X, -((c : Int) - ab X)) := by rw [hsx]; unfold sF; rw [if_pos c1]
          exact ⟨_, by rw [← hX, hstep, if_pos c1], Or.inl ⟨_, _, _, _, _, rfl, sX_stop e (by omega), (rc c1).1, (rc c1).2⟩⟩
        · by_cases c2 : R X ((c : Int) - ab X) = true
          · right
            have e : sX R c (k + 1) = some (X, (c : Int) - ab X) := by rw [hsx]; unfold sF; rw [if_neg c1, if_pos c2]
            exact ⟨_, by rw [← hX, hstep, if_neg c1, if_pos c2], Or.inl ⟨_, _, _, _, _, rfl, sX_stop e (by omega), (vc c1 c2).1, (vc c1 c2).2⟩⟩
          · left
            refine ⟨(pc, tc, sc), by
              rw [← hX, hstep, if_neg c1, if_neg c2, show X + 1 = -(c : Int) + ((k + 1 : Nat) : Int) by omega], by
              rw [hsx]; unfold sF; rw [if_neg c1, if_neg c2], _, _, vb⟩)
      (by
        rintro ⟨pl, tr, ss⟩ ⟨h1, e1, e2, h2⟩
        dsimp only at h1 h2
        rw [b_X3_findShift_32]
        simp (disch := omega) only [iI_lt]
        rw [if_pos (by omega)]
        exact ⟨_, rfl, Or.inr ⟨_, pl, tr, ss, e1, e2, rfl, h1, h2⟩⟩)
      (pl, tr, ss) ⟨rfl, e1, e2, htr⟩ (by omega)
    obtain ⟨b, g1, g2⟩ := key
    refine ⟨b, ?_, g2⟩
    rw [← g1]
    congr 2
    congr 1
    omega
  have key := x_for (B := b_X3_findShift_21 s (iI (p : Int)) (iI d) (iI (need a aim : Int))) (fun c (u : PlS × LyS × SiS) => (iI (c : Int), u.1, u.2.1, u.2.2)) (fun c u => sC R c = none ∧ ∃ e1 e2, LOK u.2.1 (aSh a p e1 e2)) D
    (fun b => (∃ x y pl' tr' ss', b = .inl ((1 : Int32), pl', tr', ss') ∧ sC R D = some (x, y) ∧ Pl_dx pl' = iI x ∧ Pl_dy pl' = iI y) ∨ (∃ z pl' tr' ss', b = .inr (z, pl', tr', ss') ∧ sC R D = none))
    (by
      rintro c ⟨pl, tr, ss⟩ hc ⟨h1, e1, e2, h2⟩
      dsimp only at h1 h2
      obtain ⟨b, g1, g2⟩ := inner c (by omega) pl tr ss e1 e2 h2
      have hsc : sC R (c + 1) = sX R c (2 * c + 1) := by rw [sC, h1]
      have hB : b_X3_findShift_21 s (iI (p : Int)) (iI d) (iI (need a aim : Int)) (iI (c : Int), pl, tr, ss) = (some b).bind fun z_ => Sum.elim (fun r_ => some (.inr (.inl r_))) (fun (x25, s26, s27, s28) => some (.inl ((iI (c : Int) + (1 : Int32)), s26, s27, s28))) z_ := by
        rw [b_X3_findShift_21]
        simp (disch := omega) only [iI_lt]
        rw [if_neg (by omega), iI_neg, g1]
      rw [hB, ob_some]
      rcases g2 with ⟨x, y, pl', tr', ss', rfl, q1, q2, q3⟩ | ⟨z, pl', tr', ss', f1, f2, rfl, q1, q2⟩
      · right
        exact ⟨_, rfl, Or.inl ⟨x, y, pl', tr', ss', rfl, sC_stop (hsc.trans q1) (by omega), q2, q3⟩⟩
      · left
        refine ⟨(pl', tr', ss'), ?_, hsc.trans q1, f1, f2, q2⟩
        show some (Sum.inl (iI (c : Int) + (1 : Int32), pl', tr', ss')) = _
        rw [iI_suc])
    (by
      rintro ⟨pl, tr, ss⟩ ⟨h1, e1, e2, h2⟩
      dsimp only at h1 h2
      rw [b_X3_findShift_21]
      simp (disch := omega) only [iI_lt]
      rw [if_pos (by omega)]
      exact ⟨_, rfl, Or.inr ⟨_, pl, tr, ss, rfl, h1⟩⟩)
    (pl, s1, ss1) ⟨rfl, 0, 0, ht⟩ (by omega)
  obtain ⟨b, g1, g2⟩ := key
  unfold f_X3_findShift
  rw [f1, ob_some, f2, ob_some]
  dsimp only
  rw [show x_loop (b_X3_findShift_21 s (iI (p : Int)) (iI d) (iI (need a aim : Int))) x_fuel ((0 : Int32), pl, s1, ss1) = some b from g1, ob_some, ← hR]
  rcases g2 with ⟨x, y, pl', tr', ss', rfl, q1, q2, q3⟩ | ⟨z, pl', tr', ss', rfl, q1⟩
  · exact ⟨_, _, _, _, rfl, Or.inr ⟨x, y, rfl, q1, q2, q3⟩⟩
  · exact ⟨_, _, _, _, rfl, Or.inl ⟨rfl, q1⟩⟩
