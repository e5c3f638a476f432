/-! layerFor on both sides -/
theorem mvO_mvO (O : Nat → Nat) (l0 l1 l2 : Nat) : mvO (mvO O l0 l1) l1 l2 = mvO O l0 l2 := by
  funext k
  unfold mvO
  repeat' split
  all_goals first | rfl | (exfalso; omega) | (congr 1; omega)
theorem mvO_same (O : Nat → Nat) (l0 : Nat) : mvO O l0 l0 = O := by
  funext k
  unfold mvO
  repeat' split
  all_goals first | rfl | (exfalso; omega) | (congr 1; omega)
theorem aMov_aMov (a : AL) (l0 l1 l2 : Nat) : aMov (aMov a l0 l1) l1 l2 = aMov a l0 l2 := by
  show (a.1, aP a, mvO (mvO (aO a) l0 l1) l1 l2) = (a.1, aP a, mvO (aO a) l0 l2)
  rw [mvO_mvO]
theorem aMov_same (a : AL) (l0 : Nat) : aMov a l0 l0 = a := by
  show (a.1, aP a, mvO (aO a) l0 l0) = a
  rw [mvO_same]
  rfl
theorem aMov_at (a : AL) (l0 l1 : Nat) : aO (aMov a l0 l1) l1 = aO a l0 := if_pos rfl
theorem q_layerFor {s : LyS} {m : Nat → Int32} (h : LM s m) (p0 : Int32) (tr : LyS) (ps : SiS) (sh so : Nat → Int32) : ∃ v tr' ps' m' sh' so', f_X7_layerFor s tr ps p0 = some (v, tr', ps') ∧ f_X8_layerFor m sh so p0 = some (v, m', sh', so') ∧ LM s m' := by
  have h' := h
  obtain ⟨a, ha, hl, hm, hcost⟩ := h
  have hb := ha.b
  obtain ⟨x, hx1, hx2, rfl⟩ := iI_of p0
  unfold f_X7_layerFor f_X8_layerFor
  rw [L_has hl (by omega) ⟨hx1, hx2⟩, M_isPiece hm (by omega) ⟨hx1, hx2⟩, ob_some, ob_some, if_b, if_b]
  by_cases hx : 0 ≤ x ∧ x < aN a
  · obtain ⟨x', rfl⟩ : ∃ x' : Nat, (x' : Int) = x := ⟨x.toNat, by omega⟩
    obtain ⟨l0, hl0, rfl⟩ := ha.sur (show x' < aN a by omega)
    have hp := ha.o hl0
    obtain ⟨C, hC⟩ : ∃ C : Nat → Bool, C = fun i => con (aMov a l0 i) (aO a l0) := ⟨_, rfl⟩
    obtain ⟨s1, f1, hq⟩ := L_take tr s
    have hl1 : LOK s1 (aMov a l0 l0) := by rw [aMov_same]; exact hq.ok (by omega) hl
    have kc := x_for (B := b_X3_lowestLayer_13 s (iI (aO a l0 : Int))) (fun i (u : LyS × SiS) => (iI (i : Int), u.1, u.2)) (fun i u => (∀ j, j < i → C j = false) ∧ ∃ l1, l1 < aN a ∧ LOK u.1 (aMov a l0 l1)) (aN a)
      (fun b => (∃ j t1 t2, j < aN a ∧ C j = true ∧ (∀ k, k < j → C k = false) ∧ b = Sum.inl (iI (j : Int), t1, t2)) ∨ ((∀ j, j < aN a → C j = false) ∧ ∃ z t1 t2, b = Sum.inr (z, t1, t2)))
      (by
        rintro i ⟨tr, ps⟩ hi ⟨h1, l1, hl1, h2⟩
        dsimp only at h2
        have hA := aMov_AOK ha hl0 hl1
        obtain ⟨s2, f2, k2, -⟩ := L_putIntoLayer h2 hA (l0 := l1) (l1 := i) hl1 hi
        rw [aMov_at, aMov_aMov] at *
        have hA2 := aMov_AOK ha hl0 hi
        obtain ⟨ps', f3, k3⟩ := L_look k2 hA2 ps
        have f4 := S_isContent k2 hA2 k3 (p := aO a l0) hp
        have hB : b_X3_lowestLayer_13 s (iI (aO a l0 : Int)) (iI (i : Int), tr, ps) = if C i = true then some (.inr (.inl (iI (i : Int), s2, ps'))) else some (.inl (iI ((i + 1 : Nat) : Int), s2, ps')) := by
          rw [b_X3_lowestLayer_13]
          unfold f_X1_pieces
          rw [ob_some, hl.n, f2, ob_some]
          dsimp only
          rw [f3, ob_some, f4, ob_some, if_b]
          simp (disch := omega) only [iI_le]
          rw [if_neg (by omega), hC, iI_suc]
        dsimp only
        rw [hB]
        by_cases c : C i = true
        · right
          rw [if_pos c]
          exact ⟨_, rfl, Or.inl ⟨i, _, _, hi, c, h1, rfl⟩⟩
        · left
          rw [if_neg c]
          refine ⟨(s2, ps'), rfl, fun j hj => ?_, i, hi, k2⟩
          by_cases e : j = i
          · subst e; exact Bool.eq_false_iff.mpr c
          · exact h1 j (by omega))
      (by
        rintro ⟨tr, ps⟩ ⟨h1, -⟩
        rw [b_X3_lowestLayer_13]
        unfold f_X1_pieces
        rw [ob_some, hl.n]
        simp (disch := omega) only [iI_le]
        rw [if_pos (by omega)]
        exact ⟨_, rfl, Or.inr ⟨h1, _, _, _, rfl⟩⟩)
      (s1, ps) ⟨fun j hj => by omega, l0, hl0, hl1⟩ (by omega)
    have km := x_for (B := b_X8_layerFor_23 (iI (aO a l0 : Int))) (fun i (u : Int × (Nat → Int32) × (Nat → Int32) × (Nat → Int32)) => (iI u.1, iI (i : Int), u.2.1, u.2.2.1, u.2.2.2))
      (fun i u => ((u.1 = -109 ∧ ∀ j, j < i → C j = false) ∨ ∃ j : Nat, u.1 = (j : Int) ∧ j < aN a ∧ C j = true ∧ ∀ k, k < j → C k = false) ∧ (∃ l1, l1 < aN a ∧ MOK u.2.1 (aMov a l0 l1)) ∧ u.2.1 3 = m 3) (aN a)
      (fun b => ∃ f z m' t1 t2, b = (iI f, z, m', t1, t2) ∧ ((f = -109 ∧ ∀ j, j < aN a → C j = false) ∨ ∃ j : Nat, f = (j : Int) ∧ j < aN a ∧ C j = true ∧ ∀ k, k < j → C k = false) ∧ (∃ l1, l1 < aN a ∧ MOK m' (aMov a l0 l1)) ∧ m' 3 = m 3)
      (by
        rintro i ⟨f, m1, sh, so⟩ hi ⟨h1, ⟨l1, hl1, h2⟩, h3⟩
        dsimp only at h1 h2 h3
        have hA := aMov_AOK ha hl0 hl1
        have ld : x_ld 88 m1 (2 : Int32) = some (iI (aN a : Int)) := by
          have q := M_ld2 h2
          exact q
        rcases h1 with ⟨rfl, h1⟩ | ⟨j, rfl, g1, g2, g3⟩
        · left
          obtain ⟨m2, f2, k2, k4⟩ := M_lays h2 hA (l0 := l1) (l1 := i) hl1 hi
          rw [aMov_at, aMov_aMov] at *
          have hA2 := aMov_AOK ha hl0 hi
          obtain ⟨sh', so', f3, k5, k6⟩ := M_paint k2 hA2 sh so
          have f4 := M_isContent' k2 hA2 k6 (p := aO a l0) hp
          have hB : b_X8_layerFor_23 (iI (aO a l0 : Int)) (iI (-109), iI (i : Int), m1, sh, so) = if C i = true then some (.inl (iI (i : Int), iI ((i + 1 : Nat) : Int), m2, sh', so')) else some (.inl (iI (-109), iI ((i + 1 : Nat) : Int), m2, sh', so')) := by
            rw [b_X8_layerFor_23, ld, ob_some, f2, ob_some]
            dsimp only
            rw [f3, ob_some]
            dsimp only
            rw [f4, ob_some, if_b]
            simp (disch := omega) only [iI_le]
            rw [if_neg (by omega), if_pos (show iI (-109) = (-109 : Int32) from rfl), hC, iI_suc]
            by_cases c : con (aMov a l0 i) (aO a l0) = true
            · rw [if_pos c, if_pos c]
            · rw [if_neg c, if_neg c]
              rfl
          dsimp only
          rw [hB]
          have e3 : m2 3 = m 3 := (k4 3 (by omega)).trans h3
          by_cases c : C i = true
          · rw [if_pos c]
            exact ⟨((i : Int), m2, sh', so'), rfl, Or.inr ⟨i, rfl, hi, c, h1⟩, ⟨i, hi, k2⟩, e3⟩
          · rw [if_neg c]
            refine ⟨(-109, m2, sh', so'), rfl, Or.inl ⟨rfl, fun j hj => ?_⟩, ⟨i, hi, k2⟩, e3⟩
            by_cases e : j = i
            · subst e; exact Bool.eq_false_iff.mpr c
            · exact h1 j (by omega)
        · right
          refine ⟨(iI (j : Int), iI (i : Int), m1, sh, so), ?_, _, _, _, _, _, rfl, Or.inr ⟨j, rfl, g1, g2, g3⟩, ⟨l1, hl1, h2⟩, h3⟩
          have nj : ¬ iI (j : Int) = (-109 : Int32) := fun z => by
            have := (iI_eq (by omega) (by omega) (by omega) (by omega)).mp (show iI (j : Int) = iI (-109) from z)
            omega
          rw [b_X8_layerFor_23, ld, ob_some, if_neg nj]
          simp (disch := omega) only [iI_le]
          rw [if_neg (by omega)])
      (by
        rintro ⟨f, m1, sh, so⟩ ⟨h1, ⟨l1, hl1, h2⟩, h3⟩
        dsimp only at h1 h2 h3
        have ld : x_ld 88 m1 (2 : Int32) = some (iI (aN a : Int)) := by
          have q := M_ld2 h2
          exact q
        refine ⟨(iI f, iI (aN a : Int), m1, sh, so), ?_, _, _, _, _, _, rfl, h1, ⟨l1, hl1, h2⟩, h3⟩
        rw [b_X8_layerFor_23, ld, ob_some]
        simp (disch := omega) only [iI_le]
        rw [if_pos (by omega)])
      (-109, m, sh, so) ⟨Or.inl ⟨rfl, fun j hj => by omega⟩, ⟨l0, hl0, by rw [aMov_same]; exact hm⟩, rfl⟩ (by omega)
    obtain ⟨b1, e1, g1⟩ := kc
    obtain ⟨b2, e2, f, z, m1, t1, t2, rfl, g2, ⟨l1, hl1', k1⟩, k3⟩ := km
    obtain ⟨m2, f2, k4, k5⟩ := M_lays k1 (aMov_AOK ha hl0 hl1') (l0 := l1) (l1 := l0) hl1' hl0
    rw [aMov_at, aMov_aMov, aMov_same] at *
    unfold f_X3_lowestLayer
    rw [if_pos hx, if_pos hx, f1, ob_some, show x_loop (b_X3_lowestLayer_13 s (iI (aO a l0 : Int))) x_fuel ((0 : Int32), s1, ps) = some b1 from e1, ob_some b1, M_layerOf hm ha hl0, ob_some (iI (l0 : Int)), show x_loop (b_X8_layerFor_23 (iI (aO a l0 : Int))) x_fuel ((-109 : Int32), (0 : Int32), m, sh, so) = _ from e2, ob_some (iI f, z, m1, t1, t2)]
    dsimp only
    rw [f2, ob_some (iI (l1 : Int), m2)]
    have hLM : LM s m2 := ⟨a, ha, hl, k4, hcost.trans ((k5 3 (by omega)).trans k3).symm⟩
    rcases g1 with ⟨j, u1, u2, q1, q2, q3, rfl⟩ | ⟨q1, z', u1, u2, rfl⟩
    · rcases g2 with ⟨rfl, r1⟩ | ⟨j', rfl, r1, r2, r3⟩
      · rw [r1 j q1] at q2; cases q2
      · have : j = j' := by
          rcases Nat.lt_trichotomy j j' with q | q | q
          · rw [r3 j q] at q2; cases q2
          · exact q
          · rw [q3 j' q] at r2; cases r2
        subst this
        exact ⟨_, _, _, _, _, _, rfl, rfl, hLM⟩
    · rcases g2 with ⟨rfl, r1⟩ | ⟨j', rfl, r1, r2, r3⟩
      · exact ⟨_, _, _, _, _, _, rfl, rfl, hLM⟩
      · rw [q1 j' r1] at r2; cases r2
  · rw [if_neg hx, if_neg hx]
    exact ⟨_, _, _, _, _, _, rfl, rfl, h'⟩
