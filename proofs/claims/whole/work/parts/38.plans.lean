/-! one round of arrange on both sides -/
def nx (a : AL) : AL := aSh a (bst a (aN a)).1.toNat (bst a (aN a)).2.2.1 (bst a (aN a)).2.2.2
theorem bst_go {a : AL} (h : (bst a (aN a)).1 ≠ -109) : ∃ j x y, j < aN a ∧ bst a (aN a) = ((j : Int), (ab x + ab y).toNat, x, y) ∧ ab x + ab y ≤ 8 ∧ ((-20 ≤ aP a j 0 + x ∧ aP a j 0 + x ≤ 40) ∧ -20 ≤ aP a j 1 + y ∧ aP a j 1 + y ≤ 40) ∧ nx a = aSh a j x y := by
  rcases (bst_inv (a := a) (aN a)).2 with q | ⟨j, x, y, h1, h2, h3, h4⟩
  · rw [q] at h; exact absurd rfl h
  · refine ⟨j, x, y, h1, h2, h3, ?_, ?_⟩
    · unfold rchN at h4
      rw [Bool.and_eq_true, decide_eq_true_eq] at h4
      exact h4.1
    · unfold nx
      rw [h2]
      rfl
theorem bst_all {a : AL} (h : cons a = aN a) : (bst a (aN a)).1 = -109 := by
  have : ∀ i, i ≤ aN a → bst a i = (-109, 9, 0, 0) := by
    intro i
    induction i with
    | zero => intro _; rfl
    | succ i ih =>
      intro hi
      rw [bst, if_pos (con_all (by omega) h)]
      exact ih (by omega)
  rw [this _ (Nat.le_refl _)]
theorem S_round {s : LyS} {a : AL} (hl : LOK s a) (ha : AOK a) (ss : SiS) (pl : PlS) (tr : LyS) (ps : SiS) : ∃ v s' ss' pl' tr' ps', f_X7_makeCheapestShift s ss pl tr ps = some (v, s', ss', pl', tr', ps') ∧ ((v = 0 ∧ s' = s ∧ (bst a (aN a)).1 = -109) ∨ (v = 1 ∧ (bst a (aN a)).1 ≠ -109 ∧ AOK (nx a) ∧ LOK s' (nx a) ∧ L_cost s' = L_cost s + iI ((bst a (aN a)).2.1 : Int))) := by
  have hb := ha.b
  obtain ⟨ss', f1, k1⟩ := L_look hl ha ss
  obtain ⟨z1, z2, pl', tr', ps', f2⟩ := S_cheap hl ha k1 pl tr ps
  unfold f_X7_makeCheapestShift
  rw [f1, ob_some, f2, ob_some]
  dsimp only
  by_cases c : (bst a (aN a)).1 = -109
  · rw [c, if_pos (show iI (-109) = (-109 : Int32) from rfl)]
    exact ⟨_, _, _, _, _, _, rfl, Or.inl ⟨rfl, rfl, rfl⟩⟩
  · obtain ⟨j, x, y, h1, h2, h3, h4, h5⟩ := bst_go c
    have hX := ab_b x
    have hY := ab_b y
    obtain ⟨s', f3, k3, k4⟩ := L_move hl ha h1 (dx := x) (dy := y) (by omega) (by omega)
    have n0 : ¬ iI (j : Int) = (-109 : Int32) := fun z => by
      have := (iI_eq (by omega) (by omega) (by omega) (by omega)).mp (show iI (j : Int) = iI (-109) from z)
      omega
    rw [h5, h2]
    dsimp only
    rw [if_neg n0, f3, ob_some]
    have ec : (((ab x + ab y).toNat : Nat) : Int) = ab x + ab y := by omega
    exact ⟨_, _, _, _, _, _, rfl, Or.inr ⟨rfl, by omega, aSh_AOK ha h4, k3, by rw [ec]; exact k4⟩⟩
theorem M_round {m : Nat → Int32} {a : AL} (hm : MOK m a) (ha : AOK a) (sh so : Nat → Int32) (lx ly : Int32) : ∃ v m' sh' so' lx' ly', f_X8_arranges m sh so lx ly = some (v, m', sh', so', lx', ly') ∧ ((v = 0 ∧ m' = m ∧ (bst a (aN a)).1 = -109) ∨ (v = 1 ∧ (bst a (aN a)).1 ≠ -109 ∧ AOK (nx a) ∧ MOK m' (nx a) ∧ m' 3 = m 3 + iI ((bst a (aN a)).2.1 : Int))) := by
  have hb := ha.b
  obtain ⟨z, sh', so', lx', ly', f2⟩ := M_cheap hm ha sh so lx ly
  unfold f_X8_arranges
  rw [f2, ob_some]
  dsimp only
  by_cases c : (bst a (aN a)).1 = -109
  · rw [c, if_pos (show iI (-109) = (-109 : Int32) from rfl), ob_some, if_pos (show iI (-109) = (-109 : Int32) from rfl)]
    exact ⟨_, _, _, _, _, _, rfl, Or.inl ⟨rfl, rfl, rfl⟩⟩
  · obtain ⟨j, x, y, h1, h2, h3, h4, h5⟩ := bst_go c
    have n0 : ¬ iI (j : Int) = (-109 : Int32) := fun z => by
      have := (iI_eq (by omega) (by omega) (by omega) (by omega)).mp (show iI (j : Int) = iI (-109) from z)
      omega
    have hms := M_shifts_ok hm (by omega) h1 x y
    obtain ⟨m1, hm1⟩ : ∃ m1, m1 = (upd (upd m (4 + 6 * j + 0) (iI (aP a j 0 + x))) (4 + 6 * j + 1) (iI (aP a j 1 + y))) := ⟨_, rfl⟩
    have e4 := M_shifts hm (by omega) h1 x y
    rw [← hm1] at e4 hms
    have e5 : x_ld 88 m1 (3 : Int32) = some (m 3) := by
      refine (x_ldI (k := 3) (j := 3) rfl (by omega) (by omega)).trans ?_
      rw [hm1, upd_ne _ _ (by omega), upd_ne _ _ (by omega)]
    have e6 : ∀ v, x_st 88 m1 (3 : Int32) v = some (upd m1 3 v) := fun v => x_stI (k := 3) (j := 3) rfl (by omega) (by omega)
    rw [h5, h2]
    dsimp only
    rw [if_neg n0, e4, ob_some m1, e5, ob_some (m 3), e6, ob_some, ob_some, if_neg n0]
    exact ⟨_, _, _, _, _, _, rfl, Or.inr ⟨rfl, by omega, aSh_AOK ha h4, ⟨(upd_ne _ _ (by omega)).trans hms.1, (upd_ne _ _ (by omega)).trans hms.2.1, (upd_ne _ _ (by omega)).trans hms.2.2.1, fun p w hp hw => (upd_ne _ _ (by omega)).trans (hms.p hp hw), fun l hl => (upd_ne _ _ (by omega)).trans (hms.o hl)⟩, upd_same _ _ _⟩⟩
