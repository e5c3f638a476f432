def nx (a : AL) : AL := aSh a (bst a (aN a)).1.toNat (bst a (aN a)).2.2.1 (bst a (aN a)).2.2.2
theorem bst_go {a : AL} (h : (bst a (aN a)).1 ≠ -109) : ∃ j x y, j < aN a ∧ bst a (aN a) = ((j : Int), (ab x + ab y).toNat, x, y) ∧ ab x + ab y ≤ 8 ∧ ((-20 ≤ aP a j 0 + x ∧ aP a j 0 + x ≤ 40) ∧ -20 ≤ aP a j 1 + y ∧ aP a j 1 + y ≤ 40) ∧ nx a = aSh a j x y := by
  rcases (bst_inv (a := a) (aN a)).2 with q | ⟨j, x, y, h1, h2, h3, h4⟩
  · rw [q] at h; exact absurd rfl h
  · refine ⟨j, x, y, h1, h2, h3, ?_, ?_⟩
    · unfold rchN at h4
      rw [Bool.and_eq_true, decide_eq_true_eq] at h4
      exact h4.1
    · unfold nx
      rw [h2]
      rfl
theorem bst_all {a : AL} (h : cons a = aN a) : (bst a (aN a)).1 = -109 := by
  have : ∀ i, i ≤ aN a → bst a i = (-109, 9, 0, 0) := by
    intro i
    induction i with
    | zero => intro _; rfl
    | succ i ih =>
      intro hi
      rw [bst, if_pos (con_all (by omega) h)]
      exact ih (by omega)
  rw [this _ (Nat.le_refl _)]
theorem S_round {s : LyS} {a : AL} (hl : LOK s a) (ha : AOK a) (ss : SiS) (pl : PlS) (tr : LyS) (ps : SiS) : ∃ v s' ss' pl' tr' ps', f_X7_makeCheapestShift s ss pl tr ps = some (v, s', ss', pl', tr', ps') ∧ ((v = 0 ∧ s' = s ∧ (bst a (aN a)).1 = -109) ∨ (v = 1 ∧ (bst a (aN a)).1 ≠ -109 ∧ AOK (nx a) ∧ LOK s' (nx a) ∧ L_cost s' = L_cost s + iI ((bst a (aN a)).2.1 : Int))) := by
  have hb := ha.b
  obtain ⟨ss', f1, k1⟩ := L_look hl ha ss
  obtain ⟨z1, z2, pl', tr', ps', f2⟩ := S_cheap hl ha k1 pl tr ps
  unfold f_X7_makeCheapestShift
  rw [f1, ob_some, f2, ob_some]
  dsimp only
  by_cases c : (bst a (aN a)).1 = -109
  · rw [c, if_pos (show iI (-109) = (-109 : Int32) from rfl)]
    exact ⟨_, _, _, _, _, _, rfl, Or.inl ⟨rfl, rfl, rfl⟩⟩
  · obtain ⟨j, x, y, h1, h2, h3, h4, h5⟩ := bst_go c
    have hX := ab_b x
    have hY := ab_b y
    obtain ⟨s', f3, k3, k4⟩ := L_move hl ha h1 (dx := x) (dy := y) (by omega) (by omega)
    have n0 : ¬ iI (j : Int) = (-109 : Int32) := fun z => by
      have := (iI_eq (by omega) (by omega) (by omega) (by omega)).mp (show iI (j : Int) = iI (-109) from z)
      omega
    rw [h5, h2]
    dsimp only
    rw [if_neg n0, f3, ob_some]
    have ec : (((ab x + ab y).toNat : Nat) : Int) = ab x + ab y := by omega
    exact ⟨_, _, _, _, _, _, rfl, Or.inr ⟨rfl, by omega, aSh_AOK ha h4, k3, by rw [ec]; exact k4⟩⟩
def ist (a : AL) : Prop := (bst a (aN a)).1 = -109
def itr (a : AL) : Nat → AL
  | 0 => a
  | n + 1 => nx (itr a n)
def tc (c0 : Int32) (a : AL) : Nat → Int32
  | 0 => c0
  | n + 1 => tc c0 a n + iI ((bst (itr a n) (aN (itr a n))).2.1 : Int)
theorem S_arr {s : LyS} {a : AL} (hl : LOK s a) (ha : AOK a) (ss : SiS) (pl : PlS) (tr : LyS) (ps : SiS) : ∃ n s' ss' pl' tr' ps', x_loop b_X7_arrange_40 x_fuel ((0 : Int32), s, ss, pl, tr, ps) = some (iI ((n : Nat) : Int), s', ss', pl', tr', ps') ∧ n ≤ 12 ∧ (n = 12 ∨ ist (itr a n)) ∧ (∀ j, j < n → ¬ ist (itr a j)) ∧ AOK (itr a n) ∧ LOK s' (itr a n) ∧ L_cost s' = tc (L_cost s) a n := by
  have key := x_for (B := b_X7_arrange_40) (fun i (u : LyS × SiS × PlS × LyS × SiS) => (iI (i : Int), u.1, u.2.1, u.2.2.1, u.2.2.2.1, u.2.2.2.2)) (fun i u => AOK (itr a i) ∧ LOK u.1 (itr a i) ∧ L_cost u.1 = tc (L_cost s) a i ∧ ∀ j, j < i → ¬ ist (itr a j)) 12
    (fun r => ∃ (n : Nat) (s' : LyS) (ss' : SiS) (pl' : PlS) (tr' : LyS) (ps' : SiS), r = (iI (n : Int), s', ss', pl', tr', ps') ∧ n ≤ 12 ∧ (n = 12 ∨ ist (itr a n)) ∧ (∀ j, j < n → ¬ ist (itr a j)) ∧ AOK (itr a n) ∧ LOK s' (itr a n) ∧ L_cost s' = tc (L_cost s) a n)
    (by
      rintro i ⟨s1, ss, pl, tr, ps⟩ hi ⟨h1, h2, h3, h4⟩
      dsimp only at h2 h3
      obtain ⟨v, s', ss', pl', tr', ps', f1, c⟩ := S_round h2 h1 ss pl tr ps
      rw [b_X7_arrange_40, f1, ob_some]
      simp (disch := omega) only [iL_12, iI_le]
      rw [if_neg (by omega)]
      rcases c with ⟨rfl, rfl, c⟩ | ⟨rfl, c, g1, g2, g3⟩
      · right
        rw [if_pos rfl]
        exact ⟨_, rfl, i, _, _, _, _, _, rfl, by omega, Or.inr c, h4, h1, h2, h3⟩
      · left
        rw [if_neg (show ¬ (1 : Int32) = 0 by decide), iI_suc]
        refine ⟨(s', ss', pl', tr', ps'), rfl, g1, g2, by rw [g3, h3]; rfl, fun j hj => ?_⟩
        by_cases e : j = i
        · subst e; exact c
        · exact h4 j (by omega))
    (by
      rintro ⟨s1, ss, pl, tr, ps⟩ ⟨h1, h2, h3, h4⟩
      rw [b_X7_arrange_40]
      simp (disch := omega) only [iL_12, iI_le]
      rw [if_pos (by omega)]
      exact ⟨_, rfl, 12, _, _, _, _, _, rfl, by omega, Or.inl rfl, h4, h1, h2, h3⟩)
    (s, ss, pl, tr, ps) ⟨ha, hl, rfl, fun j hj => by omega⟩ (by omega)
  obtain ⟨r, e1, n, s', ss', pl', tr', ps', rfl, h⟩ := key
  exact ⟨n, s', ss', pl', tr', ps', e1, h⟩
