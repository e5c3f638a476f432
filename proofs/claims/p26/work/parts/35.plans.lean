/-! the search's cost -/
theorem sX_cost {R : Int → Int → Bool} {c : Int} (hc : 0 ≤ c) {k : Nat} {x y : Int} (h : sX R c k = some (x, y)) (hk : (k : Int) ≤ 2 * c + 1) : ab x + ab y = c := by
  induction k with
  | zero => cases h
  | succ k ih =>
    rw [sX] at h
    cases e : sX R c k with
    | some r =>
      rw [e] at h
      dsimp only at h
      rw [h] at e
      exact ih e (by omega)
    | none =>
      rw [e] at h
      dsimp only at h
      have hab := ab_b (-c + k)
      exact sF_cost (by omega) h
theorem sC_at {R : Int → Int → Bool} {N : Nat} {x y : Int} (h : sC R N = some (x, y)) : ∃ k : Nat, k < N ∧ sC R k = none ∧ sC R (k + 1) = some (x, y) ∧ ab x + ab y = k := by
  induction N with
  | zero => cases h
  | succ N ih =>
    have h' := h
    rw [sC] at h
    cases e : sC R N with
    | some r =>
      rw [e] at h
      dsimp only at h
      rw [h] at e
      obtain ⟨k, g1, g2⟩ := ih e
      exact ⟨k, by omega, g2⟩
    | none =>
      rw [e] at h
      dsimp only at h
      exact ⟨N, by omega, e, h', sX_cost (by omega) h (by omega)⟩
theorem sC_cut {R : Int → Int → Bool} {n N : Nat} (hn : n ≤ N) {x y : Int} (h : sC R N = some (x, y)) : sC R n = if ab x + ab y < n then some (x, y) else none := by
  obtain ⟨k, g1, g2, g3, g4⟩ := sC_at h
  by_cases c : ab x + ab y < n
  · rw [if_pos c]
    exact sC_stop g3 (by omega)
  · rw [if_neg c]
    cases e : sC R n with
    | none => rfl
    | some r =>
      have := sC_stop e (show n ≤ k by omega)
      rw [g2] at this
      cases this
theorem sC_none {R : Int → Int → Bool} {n N : Nat} (hn : n ≤ N) (h : sC R N = none) : sC R n = none := by
  cases e : sC R n with
  | none => rfl
  | some r =>
    have := sC_stop e hn
    rw [h] at this
    cases this
/-- the cheapest of the least shifts of the first pieces: mover, cost, dx, dy -/
def bst (a : AL) : Nat → Int × Nat × Int × Int
  | 0 => (-109, 9, 0, 0)
  | i + 1 => if con a i = true then bst a i else match sC (rchN a i (cons a)) (bst a i).2.1 with
    | none => bst a i
    | some (x, y) => ((i : Int), (ab x + ab y).toNat, x, y)
